/**
 * Promises 1 to 6, 9, 11 and 12: a new object, and what is told and set from outside. Each method looks at
 * the words of the document that stand above it.
 */
public final class StateTest {
    private static final Check CHECK = new Check("StateTest");
    private static final int STOPPED = NaturalMachine.STOPPED, RUNNING = NaturalMachine.RUNNING;
    private static final int DONE = NaturalMachine.DONE, FAULTED = NaturalMachine.FAULTED;
    private static final int[] NOWHERE = {-1, 512, 513, -512, 65536, Integer.MAX_VALUE, Integer.MIN_VALUE};
    private static final int[] NO_REGISTER = {-1, 8, 9, 16, -8, Integer.MAX_VALUE, Integer.MIN_VALUE};

    public static void main(String[] args) {
        pointerSize();
        newBytes();
        newRegisters();
        newState();
        objectsAreApart();
        storeLowestFirst();
        storeAtBothEnds();
        storeOfAWrongCount();
        storeOutsideOrPartlySo();
        peekFrom0To255();
        peekWhereThereIsNone();
        setRegister();
        setRegisterThatIsNone();
        registerThatIsNone();
        startAtBothEnds();
        startInEveryState();
        startWhereThereIsNone();
        states();
        ips();
        conditions();
        CHECK.end();
    }

    /** A machine in a state, with some marks; but for STOPPED its condition is true and its IP 42 or 44. */
    private static NaturalMachine in(int state) {
        NaturalMachine m = new NaturalMachine(1);
        m.store(100, 0x1122334455667788L, 8);
        m.setRegister(5, -5);
        if (state == STOPPED) {
            return m;
        }
        m.setRegister(7, 1);
        Check.code(41, Check.ab(0, 7)).then(state == DONE ? 4 : 0, 0).into(m, 40);
        m.run(state == RUNNING ? 1 : 2);
        return m;
    }

    // Promise 1.

    /** "P is 8 if wide is odd, else 4." */
    private static void pointerSize() {
        int[] wide = {0, 1, 2, 7, -1, -2, -3, Integer.MAX_VALUE, Integer.MIN_VALUE, Integer.MIN_VALUE + 1};
        int[] size = {4, 8, 4, 8, 8, 4, 8, 8, 4, 8};
        for (int i = 0; i < wide.length; i++) {
            NaturalMachine m = new NaturalMachine(wide[i]);
            CHECK.due("P for " + wide[i], m.index(0x1001, 16, 2), size[i]);
            Check.code(53, 0).into(m, 0);
            CHECK.steps("push of a pointer", m, 53);
            CHECK.due("R0 behind a pointer for " + wide[i], m.register(0), 512 - size[i]);
        }
    }

    /** "All bytes and registers are 0": two objects, as none has more than 512 calls. */
    private static void newBytes() {
        NaturalMachine low = new NaturalMachine(0);
        NaturalMachine high = new NaturalMachine(1);
        for (int address = 0; address < 256; address++) {
            CHECK.due("new: peek(" + address + ")", low.peek(address), 0);
            CHECK.due("new: peek(" + (256 + address) + ")", high.peek(256 + address), 0);
        }
    }

    /** "All bytes and registers are 0, but R0 is 512" */
    private static void newRegisters() {
        for (int wide = 0; wide < 2; wide++) {
            NaturalMachine m = new NaturalMachine(wide);
            for (int r = 0; r < 8; r++) {
                CHECK.due("new: register(" + r + ")", m.register(r), r == 0 ? 512 : 0);
            }
        }
    }

    /** "the condition is false; the machine is STOPPED, the IP 0." */
    private static void newState() {
        for (int wide = 0; wide < 2; wide++) {
            NaturalMachine m = new NaturalMachine(wide);
            CHECK.due("new: condition", m.condition(), false);
            CHECK.due("new: state", m.state(), STOPPED);
            CHECK.due("new: ip", m.ip(), 0);
            CHECK.due("new: fault", m.fault(), NaturalMachine.NO_FAULT);
        }
    }

    /** A new object is new whatever others have done. */
    private static void objectsAreApart() {
        NaturalMachine kept = new NaturalMachine(1);
        String before = Check.all(kept);
        NaturalMachine other = in(FAULTED);
        CHECK.due("the other one has its condition", other.condition(), true);
        CHECK.due("one object does nothing to another", Check.all(kept), before);
        CHECK.due("nor to its state", kept.state(), STOPPED);
        CHECK.due("nor to one that is made later", Check.all(new NaturalMachine(1)), before);
    }

    // Promise 2.

    /** "n bytes from an address on become the lowest ones of v, the lowest first." */
    private static void storeLowestFirst() {
        for (int n = 1; n <= 8; n++) {
            NaturalMachine m = new NaturalMachine(0);
            CHECK.due("store of " + n, m.store(100, 0xf8e7d6c5b4a39281L, n), true);
            CHECK.due("the byte before " + n, m.peek(99), 0);
            for (int i = 0; i < n; i++) {
                CHECK.due("byte " + i + " of " + n, m.peek(100 + i), 0x81 + 0x11 * i);
            }
            CHECK.due("the byte behind " + n, m.peek(100 + n), 0);
        }
    }

    /** The first and the last addresses that each n may have. */
    private static void storeAtBothEnds() {
        for (int n = 1; n <= 8; n++) {
            NaturalMachine m = new NaturalMachine(0);
            CHECK.due("store at 0 of " + n, m.store(0, -1, n), true);
            CHECK.due("at 0", m.peek(0), 255);
            CHECK.due("the last at 0", m.peek(n - 1), 255);
            CHECK.due("behind it", m.peek(n), 0);
            CHECK.due("store to the end of " + n, m.store(512 - n, -1, n), true);
            CHECK.due("before the end", m.peek(511 - n), 0);
            CHECK.due("the first to the end", m.peek(512 - n), 255);
            CHECK.due("at the end", m.peek(511), 255);
        }
    }

    /** "False, changing nothing, when n is not 1 .. 8" */
    private static void storeOfAWrongCount() {
        int[] counts = {0, 9, -1, -8, 16, 257, Integer.MAX_VALUE, Integer.MIN_VALUE};
        for (int n : counts) {
            storeRefused(0, n);
            storeRefused(100, n);
            storeRefused(511, n);
        }
    }

    /** "or one of them is not in the memory." */
    private static void storeOutsideOrPartlySo() {
        for (int n = 1; n <= 8; n++) {
            storeRefused(513 - n, n);
            storeRefused(-1, n);
            storeRefused(-n, n);
            for (int address : NOWHERE) {
                storeRefused(address, n);
            }
            // address + n would be a small number if it were reckoned in 32 bits.
            storeRefused(Integer.MAX_VALUE - n + 1, n);
        }
    }

    private static void storeRefused(int address, int n) {
        NaturalMachine m = in(RUNNING);
        String before = Check.all(m);
        CHECK.due("store(" + address + ", -1, " + n + ")", m.store(address, -1, n), false);
        CHECK.due("store(" + address + ", -1, " + n + ") changes nothing", Check.all(m), before);
        CHECK.due("nor the state", m.state(), RUNNING);
    }

    // Promise 3.

    /** "The byte at an address, 0 to 255" */
    private static void peekFrom0To255() {
        NaturalMachine m = new NaturalMachine(0);
        for (int b = 0; b < 256; b += 51) {
            m.store(0, b, 1);
            m.store(511, 255 - b, 1);
            CHECK.due("peek(0) of " + b, m.peek(0), b);
            CHECK.due("peek(511) of " + (255 - b), m.peek(511), 255 - b);
        }
        int[] aroundTheSign = {127, 128};
        for (int b : aroundTheSign) {
            m.store(9, b, 1);
            CHECK.due("peek of " + b, m.peek(9), b);
        }
    }

    /** "-1 when there is none." */
    private static void peekWhereThereIsNone() {
        NaturalMachine m = in(RUNNING);
        for (int address : NOWHERE) {
            CHECK.due("peek(" + address + ")", m.peek(address), -1);
        }
    }

    // Promises 4 and 5.

    /** "Register r becomes v." */
    private static void setRegister() {
        long[] values = {0, -1, Long.MAX_VALUE, Long.MIN_VALUE, 1L << 32};
        for (long v : values) {
            NaturalMachine m = new NaturalMachine(0);
            for (int r = 0; r < 8; r++) {
                CHECK.due("setRegister(" + r + ", " + v + ")", m.setRegister(r, v - r), true);
            }
            for (int r = 0; r < 8; r++) {
                CHECK.due("register(" + r + ")", m.register(r), v - r);
            }
        }
    }

    /** "False when there is none." */
    private static void setRegisterThatIsNone() {
        NaturalMachine m = in(RUNNING);
        String before = Check.all(m);
        for (int r : NO_REGISTER) {
            CHECK.due("setRegister(" + r + ")", m.setRegister(r, 9), false);
        }
        CHECK.due("setRegister where there is none changes nothing", Check.all(m), before);
    }

    /** "0 when there is none." */
    private static void registerThatIsNone() {
        NaturalMachine m = new NaturalMachine(0);
        for (int r = 0; r < 8; r++) {
            m.setRegister(r, -1);
        }
        for (int r : NO_REGISTER) {
            CHECK.due("register(" + r + ")", m.register(r), 0);
        }
    }

    // Promise 6.

    /** "The machine is RUNNING from an address on": the first and the last address too. */
    private static void startAtBothEnds() {
        int[] addresses = {0, 1, 510, 511};
        for (int address : addresses) {
            NaturalMachine m = new NaturalMachine(1);
            CHECK.due("start(" + address + ")", m.start(address), true);
            CHECK.due("RUNNING from " + address, m.state(), RUNNING);
            CHECK.due("ip from " + address, m.ip(), address);
        }
    }

    /** "without a fault (whatever it was; memory, registers and condition stay)." */
    private static void startInEveryState() {
        for (int state = STOPPED; state <= FAULTED; state++) {
            NaturalMachine m = in(state);
            CHECK.due("before: state", m.state(), state);
            String before = Check.all(m).replace("ip " + m.ip() + " ", "");
            CHECK.due("start of " + state, m.start(7), true);
            CHECK.due("start of " + state + ": state", m.state(), RUNNING);
            CHECK.due("start of " + state + ": fault", m.fault(), NaturalMachine.NO_FAULT);
            CHECK.due("start of " + state + ": ip", m.ip(), 7);
            CHECK.due("start of " + state + ": all else", Check.all(m).replace("ip 7 ", ""), before);
        }
    }

    /** "False, changing nothing, when there is no such address." */
    private static void startWhereThereIsNone() {
        for (int state = STOPPED; state <= FAULTED; state++) {
            NaturalMachine m = in(state);
            String before = Check.all(m);
            int fault = m.fault();
            for (int address : NOWHERE) {
                CHECK.due("start(" + address + ") of " + state, m.start(address), false);
            }
            CHECK.due("refused start of " + state + ": state", m.state(), state);
            CHECK.due("refused start of " + state + ": fault", m.fault(), fault);
            CHECK.due("refused start of " + state + ": all else", Check.all(m), before);
        }
    }

    // Promises 9, 11 and 12.

    /** "STOPPED, RUNNING, DONE or FAULTED." */
    private static void states() {
        for (int state = STOPPED; state <= FAULTED; state++) {
            CHECK.due("state", in(state).state(), state);
            int fault = state == FAULTED ? NaturalMachine.BREAK : NaturalMachine.NO_FAULT;
            CHECK.due("fault in state " + state, in(state).fault(), fault);
        }
    }

    /** "The IP.": behind an instruction, behind the last one, and at one that met a fault. */
    private static void ips() {
        CHECK.due("ip, RUNNING", in(RUNNING).ip(), 42);
        CHECK.due("ip, DONE", in(DONE).ip(), 44);
        CHECK.due("ip, FAULTED", in(FAULTED).ip(), 42);
        long[] far = {512, -1, 1L << 32, Long.MAX_VALUE, Long.MIN_VALUE};
        for (long address : far) {
            NaturalMachine m = Check.with(Check.narrow(0, Check.code(1, 1)), 1, address);
            CHECK.steps("jump out of the memory", m, 1);
            CHECK.due("ip out of the memory", m.ip(), address);
            CHECK.due("still RUNNING", m.state(), RUNNING);
        }
    }

    /** "The condition." */
    private static void conditions() {
        CHECK.due("condition, STOPPED", in(STOPPED).condition(), false);
        CHECK.due("condition, RUNNING", in(RUNNING).condition(), true);
        CHECK.due("condition, DONE", in(DONE).condition(), true);
        CHECK.due("condition, FAULTED", in(FAULTED).condition(), true);
    }
}
