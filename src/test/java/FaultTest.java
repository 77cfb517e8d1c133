/**
 * Promises 7 and 10: which fault is met, which of several, and that all else stays as it was. Each method
 * looks at the words of the document that stand above it; every fault is looked at with all else.
 */
public final class FaultTest {
    private static final Check CHECK = new Check("FaultTest");
    private static final int H = Check.H, T = Check.T, AT_A = Check.AT_A, AT_B = Check.AT_B;
    private static final int OPCODE = NaturalMachine.OPCODE, ADDRESS = NaturalMachine.ADDRESS;
    private static final int DIVIDE = NaturalMachine.DIVIDE, INDEX = NaturalMachine.INDEX;
    private static final int BREAK = NaturalMachine.BREAK;
    private static final int TOO_WIDE = 0x7000;

    public static void main(String[] args) {
        notRunning();
        faultsAreTold();
        breaks();
        firstBytes();
        instructionBytes();
        indexes();
        bytesThenWidth();
        exclusionFirst();
        noKind();
        numbers();
        idleJump();
        divide();
        writes();
        stack();
        conditionStays();
        CHECK.end();
    }

    /** "IllegalStateException when the machine is not RUNNING" */
    private static void notRunning() {
        NaturalMachine stopped = new NaturalMachine(1);
        stopped.store(0, 42, 2);
        refused("STOPPED", stopped);
        NaturalMachine done = Check.wide(0, Check.code(4, 0).then(42, 1));
        CHECK.steps("the last", done, 4);
        refused("DONE", done);
        NaturalMachine faulted = Check.wide(0, Check.code(63, 0));
        CHECK.throwing("the fault", () -> faulted.step(), "UnsupportedOperationException");
        refused("FAULTED", faulted);
    }

    private static void refused(String name, NaturalMachine m) {
        String before = Check.all(m);
        int state = m.state();
        int fault = m.fault();
        CHECK.throwing("step of one that is " + name, () -> m.step(), "IllegalStateException");
        CHECK.throwing("and again", () -> m.step(), "IllegalStateException");
        CHECK.due(name + " stays", m.state(), state);
        CHECK.due(name + ": the fault stays", m.fault(), fault);
        CHECK.due(name + ": all else stays", Check.all(m), before);
    }

    /** "The fault, if it is FAULTED; else NO_FAULT." */
    private static void faultsAreTold() {
        NaturalMachine m = new NaturalMachine(1);
        CHECK.due("STOPPED: fault()", m.fault(), NaturalMachine.NO_FAULT);
        m.store(0, 42, 2);
        m.start(0);
        CHECK.due("RUNNING: fault()", m.fault(), NaturalMachine.NO_FAULT);
        CHECK.steps("no fault", m, 42);
        CHECK.due("behind a step: fault()", m.fault(), NaturalMachine.NO_FAULT);
        m.store(2, 63, 2);
        CHECK.due("run into a fault", m.run(1), 0);
        CHECK.due("FAULTED: fault()", m.fault(), OPCODE);
        m.start(0);
        CHECK.due("RUNNING again: fault()", m.fault(), NaturalMachine.NO_FAULT);
        m.store(0, 4, 2);
        CHECK.steps("the last", m, 4);
        CHECK.due("DONE: fault()", m.fault(), NaturalMachine.NO_FAULT);
    }

    /** "0: the fault BREAK." */
    private static void breaks() {
        CHECK.faults("break", Check.wide(0, Check.code(0, 0)), BREAK);
        CHECK.faults("break with all bits", Check.wide(0, Check.code(0xc0, 0xff)), BREAK);
        CHECK.faults("break at the end", Check.wide(510, Check.code(0, 0)), BREAK);
    }

    /** "o and q are read" first, and "to read an instruction's bytes" where there are none is ADDRESS. */
    private static void firstBytes() {
        CHECK.faults("break whose q is not there", Check.wide(511, new Check.Code().put(0, 1)), ADDRESS);
        CHECK.faults("no kind, q is not there", Check.wide(511, new Check.Code().put(63, 1)), ADDRESS);
        long[] nowhere = {512, 513, -1, -2, 1L << 32, (1L << 32) + 16, Long.MAX_VALUE, Long.MAX_VALUE - 1,
            Long.MIN_VALUE};
        for (long address : nowhere) {
            NaturalMachine m = Check.with(Check.wide(0, Check.code(1, 1)), 1, address);
            CHECK.steps("jump to " + address, m, 1);
            CHECK.faults("at " + address, m, ADDRESS);
        }
    }

    /** "as it is to read an instruction's bytes there." */
    private static void instructionBytes() {
        CHECK.steps("the last two bytes", Check.wide(510, Check.code(42, 1)), 42);
        CHECK.steps("16 bits at the end", Check.wide(508, Check.code(12 | T, 1).i16(1)), 12);
        CHECK.faults("16 bits, one is not there", Check.wide(509, Check.code(12 | T, 1).put(1, 1)), ADDRESS);
        CHECK.faults("32 bits, none is there", Check.wide(510, Check.code(1 | T, 1)), ADDRESS);
        CHECK.faults("32 bits, one is not there", Check.wide(507, Check.code(1 | T, 1).put(0, 3)), ADDRESS);
        CHECK.steps("32 bits at the end", Check.wide(506, Check.code(1 | T, 1).i32(0)), 1);
        CHECK.faults("64 bits, one is not there", Check.wide(503, Check.code(1 | T | H, 1).put(0, 7)), ADDRESS);
        CHECK.steps("64 bits at the end", Check.wide(502, Check.code(1 | T | H, 1).i64(0)), 1);
        CHECK.faults("an idle jump reads its bytes", Check.wide(507, Check.code(1 | T, 192)), ADDRESS);
        CHECK.faults("the second index is not there",
                Check.wide(508, Check.code(29 | T | H, AT_A | AT_B | 1).i16(0)), ADDRESS);
    }

    /** "A width of more than n - 4 is the fault INDEX.": before numbers, DIVIDE and what is written. */
    private static void indexes() {
        CHECK.faults("too wide, second", Check.wide(0, Check.code(12 | T, AT_B | 1).i16(TOO_WIDE)), INDEX);
        CHECK.steps("an immediate is none", Check.wide(0, Check.code(12 | T, 1).i16(TOO_WIDE)), 12);
        CHECK.faults("too wide, with the sign",
                Check.wide(0, Check.code(12 | T, AT_B | 1).i16(0xffff)), INDEX);
        CHECK.faults("index before what it points at",
                Check.with(Check.wide(0, Check.code(29 | H, AT_B | Check.ab(1, 2)).i16(TOO_WIDE)), 2, -1), INDEX);
        CHECK.faults("put, the index that is put", Check.wide(0, Check.code(56 | H, 1).i16(TOO_WIDE)), INDEX);
        CHECK.faults("push", Check.wide(0, Check.code(43 | T, AT_A | 1).i16(TOO_WIDE)), INDEX);
        CHECK.faults("pop, before the number",
                Check.wide(0, Check.code(44 | T, AT_A | 1).i16(TOO_WIDE)), INDEX);
        CHECK.faults("divide by 0, index first",
                Check.wide(0, Check.code(16 | T, AT_B | 1).i16(TOO_WIDE)), INDEX);
        CHECK.faults("compare", Check.wide(0, Check.code(5 | T, AT_B | 1).i16(TOO_WIDE)), INDEX);
    }

    /** "the indexes and immediates, one after the other (their bytes, then the width)" */
    private static void bytesThenWidth() {
        CHECK.faults("half an index is not there",
                Check.wide(509, Check.code(12 | T, AT_B | 1).put(0, 1)), ADDRESS);
        Check.Code code = Check.code(29 | T | H, AT_A | AT_B | 1).i16(TOO_WIDE);
        CHECK.faults("width before the next one's bytes", Check.wide(508, code), INDEX);
        code = Check.code(29 | T | H, AT_A | AT_B | 1).i16(0).i16(TOO_WIDE);
        CHECK.faults("the second's width", Check.wide(0, code), INDEX);
        CHECK.faults("compare, index before the immediate",
                Check.wide(508, Check.code(45, 16 | AT_A | 1).i16(TOO_WIDE)), INDEX);
        CHECK.faults("compare, the immediate is not there",
                Check.wide(508, Check.code(45, 16 | AT_A | 1).i16(0)), ADDRESS);
        CHECK.faults("put, index before the immediate",
                Check.wide(508, Check.code(55 | H, 64 | AT_A | 1).i16(TOO_WIDE)), INDEX);
    }

    /** "then comes what is excluded; then the indexes and immediates": all but o and q come behind it. */
    private static void exclusionFirst() {
        CHECK.faults("before bytes that are not there", Check.wide(510, Check.code(5 | T, AT_A)), OPCODE);
        CHECK.faults("before a width", Check.wide(0, Check.code(29 | T | H, 1).i16(TOO_WIDE)), OPCODE);
        CHECK.faults("before a number", Check.with(Check.wide(0, Check.code(43, 16 | AT_A | 1)), 1, -1), OPCODE);
        CHECK.faults("before a push", Check.with(Check.wide(0, Check.code(3, 32)), 0, 0), OPCODE);
        CHECK.faults("an idle jump too", Check.wide(0, Check.code(1 | H, 128 | 64)), OPCODE);
    }

    /** "A kind that is not told here [...] is the fault OPCODE" */
    private static void noKind() {
        int[] none = {37, 38, 39, 52, 58, 59, 60, 61, 62, 63};
        for (int kind : none) {
            for (int flags = 0; flags < 256; flags += 64) {
                CHECK.faults("kind " + kind, Check.wide(510, Check.code(kind | flags, 0)), OPCODE);
            }
        }
    }

    /** "the numbers in memory that it needs": those it needs are read with their whole size. */
    private static void numbers() {
        for (int kind = 26; kind <= 28; kind++) {
            NaturalMachine m = Check.with(Check.wide(0, Check.code(kind, AT_B | 0x12)), 1, 509);
            CHECK.faults("low bytes of 4 at 509", m, ADDRESS);
            m = Check.with(Check.wide(0, Check.code(kind | H, AT_B | 0x12)), 1, 505);
            CHECK.faults("low bytes of 8 at 505", m, ADDRESS);
        }
        NaturalMachine m = Check.with(Check.wide(0, Check.code(29, AT_A | AT_B | 0x21)), 1, 512);
        CHECK.faults("from memory to where there is none", m, ADDRESS);
        m = Check.with(Check.wide(0, Check.code(29, AT_A | AT_B | 0x12)), 1, 512);
        CHECK.faults("to memory from where there is none", m, ADDRESS);
    }

    /** "by 0: the fault DIVIDE", behind "the numbers in memory that it needs". */
    private static void divide() {
        for (int kind = 16; kind <= 19; kind++) {
            NaturalMachine m = Check.with(Check.wide(0, Check.code(kind, Check.ab(1, 2))), 1, 7);
            CHECK.faults("by 0", m, DIVIDE);
            m = Check.with(Check.wide(0, Check.code(kind, Check.ab(1, 2))), 1, 7, 2, 1L << 32);
            CHECK.faults("by what is 0 in 4 bytes", m, DIVIDE);
            m = Check.with(Check.wide(0, Check.code(kind | H, Check.ab(1, 2))), 1, 7, 2, 1L << 32);
            CHECK.steps("but not in 8", m, kind);
            m = Check.with(Check.wide(0, Check.code(kind | T, Check.ab(1, 2)).i16(-5)), 2, 5);
            CHECK.faults("by 5 - 5", m, DIVIDE);
            m = Check.with(Check.wide(0, Check.code(kind, AT_A | Check.ab(1, 2))), 1, 509);
            CHECK.faults("the first's address before it", m, ADDRESS);
            m = Check.with(Check.wide(0, Check.code(kind, AT_B | Check.ab(1, 2))), 2, 100);
            CHECK.faults("by 0 in memory", m, DIVIDE);
            m = Check.with(Check.wide(0, Check.code(kind, AT_B | Check.ab(1, 2))), 2, 510);
            CHECK.faults("the second's address before it", m, ADDRESS);
        }
    }

    /** "a step either does all that its instruction says or nothing": no byte of a number is written alone. */
    private static void writes() {
        NaturalMachine m = Check.with(Check.wide(0, Check.code(32, AT_A | Check.ab(1, 2))), 1, 508, 2, -1);
        CHECK.faults("half of it would lie in the memory", m, ADDRESS);
        m = Check.with(Check.wide(0, Check.code(32, AT_A | Check.ab(1, 2))), 1, -4, 2, -1);
        CHECK.faults("the other half", m, ADDRESS);
        m = Check.with(Check.wide(0, Check.code(42, 1)), 1, 9);
        CHECK.steps("no fault", m, 42);
        CHECK.due("no fault: fault()", m.fault(), NaturalMachine.NO_FAULT);
    }

    /** A stack that is full or empty: R0 less the size, or R0, is no address, and R0 stays as it was. */
    private static void stack() {
        CHECK.faults("push, full", Check.with(Check.wide(16, Check.code(43, 1)), 0, 0), ADDRESS);
        CHECK.faults("push, all but full", Check.with(Check.wide(16, Check.code(43, 1)), 0, 3), ADDRESS);
        CHECK.steps("push, room for one", Check.with(Check.wide(16, Check.code(43, 1)), 0, 4), 43);
        CHECK.faults("call, full", Check.with(Check.narrow(16, Check.code(3, 1)), 0, 0), ADDRESS);
        CHECK.faults("call, room for half", Check.with(Check.wide(16, Check.code(3, 1)), 0, 4), ADDRESS);
        CHECK.faults("pop, empty", Check.wide(16, Check.code(44, 1)), ADDRESS);
        CHECK.faults("pop of a pointer, empty", Check.wide(16, Check.code(54, 1)), ADDRESS);
        CHECK.faults("pop, half of it there", Check.with(Check.wide(16, Check.code(44, 1)), 0, 510), ADDRESS);
        CHECK.faults("return, half of it there", Check.with(Check.wide(16, Check.code(4, 1)), 0, 508), ADDRESS);
        NaturalMachine m = Check.with(Check.wide(16, Check.code(44, AT_A | 1)), 0, 100, 1, 510);
        CHECK.faults("pop to where there is no memory", m, ADDRESS);
    }

    /** "(A JUMP that does nothing needs none.)": but its bytes it needs. */
    private static void idleJump() {
        NaturalMachine m = Check.with(Check.wide(0, Check.code(1, 128 | 64 | AT_A | 3)), 3, -1);
        CHECK.steps("only if true, and it is false", m, 1);
        CHECK.due("only if true, and it is false: ip", m.ip(), 2);
        m = Check.with(Check.whenTrue(Check.wide(0, Check.code(1, 128 | AT_A | 3))), 3, -1);
        CHECK.steps("only if false, and it is true", m, 1);
        CHECK.due("only if false, and it is true: ip", m.ip(), 2);
        m = Check.with(Check.wide(0, Check.code(1 | T, 128 | 64 | AT_A | 3).i32(8)), 3, 600);
        CHECK.steps("with an index", m, 1);
        CHECK.due("with an index: ip", m.ip(), 6);
        m = Check.with(Check.wide(0, Check.code(1, 128 | AT_A | 3)), 3, -1);
        CHECK.faults("only if false, and it is so", m, ADDRESS);
        m = Check.with(Check.whenTrue(Check.wide(0, Check.code(1, 128 | 64 | AT_A | 3))), 3, -1);
        CHECK.faults("only if true, and it is so", m, ADDRESS);
        CHECK.faults("its bytes", Check.wide(507, Check.code(1 | T, 128 | 64)), ADDRESS);
    }

    /** "all else as it was before": the condition too, true or false. */
    private static void conditionStays() {
        for (int before = 0; before < 2; before++) {
            for (int kind = 5; kind <= 9; kind++) {
                conditionStays(before == 1, Check.code(kind, AT_B | Check.ab(1, 2)));
                conditionStays(before == 1, Check.code(kind + 40, AT_A | 2).i16(-1));
            }
            // R6 is even and R5 odd, so that 41, were it done, would make the condition another.
            conditionStays(before == 1, Check.code(41, AT_A | Check.ab(0, before == 1 ? 6 : 5)));
        }
    }

    private static void conditionStays(boolean before, Check.Code code) {
        NaturalMachine m = Check.with(Check.wide(16, code), 2, -1, 5, 1);
        if (before) {
            Check.whenTrue(m);
        }
        CHECK.throwing("a fault", () -> m.step(), "UnsupportedOperationException");
        CHECK.due("the condition behind it", m.condition(), before);
    }
}
