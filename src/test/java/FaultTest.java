/** Promises 7 and 10: which fault is met, which of several, and that all else stays as it was. */
public final class FaultTest {
    private static final Check CHECK = new Check("FaultTest");
    private static final int H = Check.H, T = Check.T, AT_A = Check.AT_A, AT_B = Check.AT_B;
    private static final int OPCODE = NaturalMachine.OPCODE, ADDRESS = NaturalMachine.ADDRESS;
    private static final int DIVIDE = NaturalMachine.DIVIDE, INDEX = NaturalMachine.INDEX;
    private static final int BREAK = NaturalMachine.BREAK;
    private static final int TOO_WIDE = 0x7000;

    public static void main(String[] args) {
        firstBytes();
        instructionBytes();
        indexes();
        exclusionFirst();
        numbers();
        divide();
        writes();
        stack();
        nothingElseChanges();
        CHECK.end();
    }

    private static NaturalMachine with(NaturalMachine m, int r, long v) {
        m.setRegister(r, v);
        return m;
    }

    private static void firstBytes() {
        CHECK.faults("break", Check.wide(0, Check.code(0, 0)), BREAK);
        CHECK.faults("break with all bits", Check.wide(0, Check.code(0xc0, 0xff)), BREAK);
        CHECK.faults("break whose q is not there", Check.wide(511, new Check.Code().put(0, 1)), ADDRESS);
        CHECK.faults("no kind, q is not there", Check.wide(511, new Check.Code().put(63, 1)), ADDRESS);
        NaturalMachine m = Check.wide(0, Check.code(2, 0xfe));
        CHECK.steps("jump to -2", m, 2);
        CHECK.faults("at -2", m, ADDRESS);
        m = with(Check.wide(0, Check.code(1, 1)), 1, -1);
        CHECK.steps("jump to -1", m, 1);
        CHECK.faults("at -1", m, ADDRESS);
        m = with(Check.wide(0, Check.code(1, 1)), 1, 1L << 32);
        CHECK.steps("jump beyond 32 bits", m, 1);
        CHECK.faults("beyond 32 bits", m, ADDRESS);
    }

    private static void instructionBytes() {
        CHECK.steps("the last two bytes", Check.wide(510, Check.code(42, 1)), 42);
        CHECK.steps("16 bits at the end", Check.wide(508, Check.code(12 | T, 1).i16(1)), 12);
        CHECK.faults("16 bits, one is not there", Check.wide(509, Check.code(12 | T, 1).put(1, 1)), ADDRESS);
        CHECK.faults("32 bits, none is there", Check.wide(510, Check.code(1 | T, 1)), ADDRESS);
        CHECK.faults("32 bits, one is not there", Check.wide(507, Check.code(1 | T, 1).put(0, 3)), ADDRESS);
        CHECK.steps("32 bits at the end", Check.wide(506, Check.code(1 | T, 1).i32(0)), 1);
        CHECK.faults("64 bits, one is not there", Check.wide(503, Check.code(1 | T | H, 1).put(0, 7)), ADDRESS);
        CHECK.steps("64 bits at the end", Check.wide(502, Check.code(1 | T | H, 1).i64(0)), 1);
        CHECK.faults("an idle jump reads its bytes", Check.wide(507, Check.code(1 | T, 192)), ADDRESS);
        CHECK.faults("the second index is not there",
                Check.wide(508, Check.code(29 | T | H, AT_A | AT_B | 1).i16(0)), ADDRESS);
    }

    private static void indexes() {
        CHECK.faults("too wide, second", Check.wide(0, Check.code(12 | T, AT_B | 1).i16(TOO_WIDE)), INDEX);
        CHECK.steps("an immediate is none", Check.wide(0, Check.code(12 | T, 1).i16(TOO_WIDE)), 12);
        CHECK.faults("too wide, with the sign",
                Check.wide(0, Check.code(12 | T, AT_B | 1).i16(0xffff)), INDEX);
        CHECK.faults("half an index is not there",
                Check.wide(509, Check.code(12 | T, AT_B | 1).put(0, 1)), ADDRESS);
        Check.Code code = Check.code(29 | T | H, AT_A | AT_B | 1).i16(TOO_WIDE);
        CHECK.faults("width before the next one's bytes", Check.wide(508, code), INDEX);
        code = Check.code(29 | T | H, AT_A | AT_B | 1).i16(0).i16(TOO_WIDE);
        CHECK.faults("the second's width", Check.wide(0, code), INDEX);
        CHECK.faults("index before what it points at",
                with(Check.wide(0, Check.code(29 | H, AT_B | Check.ab(1, 2)).i16(TOO_WIDE)), 2, -1), INDEX);
        CHECK.faults("compare, index before the immediate",
                Check.wide(508, Check.code(45, 16 | AT_A | 1).i16(TOO_WIDE)), INDEX);
        CHECK.faults("compare, the immediate is not there",
                Check.wide(508, Check.code(45, 16 | AT_A | 1).i16(0)), ADDRESS);
        CHECK.faults("put, index before the immediate",
                Check.wide(508, Check.code(55 | H, 64 | AT_A | 1).i16(TOO_WIDE)), INDEX);
        CHECK.faults("put, the index that is put", Check.wide(0, Check.code(56 | H, 1).i16(TOO_WIDE)), INDEX);
        CHECK.faults("push", Check.wide(0, Check.code(43 | T, AT_A | 1).i16(TOO_WIDE)), INDEX);
        CHECK.faults("pop, before the number",
                Check.wide(0, Check.code(44 | T, AT_A | 1).i16(TOO_WIDE)), INDEX);
        CHECK.faults("divide by 0, index first",
                Check.wide(0, Check.code(16 | T, AT_B | 1).i16(TOO_WIDE)), INDEX);
        CHECK.faults("compare", Check.wide(0, Check.code(5 | T, AT_B | 1).i16(TOO_WIDE)), INDEX);
    }

    private static void exclusionFirst() {
        CHECK.faults("before bytes that are not there", Check.wide(510, Check.code(5 | T, AT_A)), OPCODE);
        CHECK.faults("before a width", Check.wide(0, Check.code(29 | T | H, 1).i16(TOO_WIDE)), OPCODE);
        CHECK.faults("before a number", with(Check.wide(0, Check.code(43, 16 | AT_A | 1)), 1, -1), OPCODE);
        CHECK.faults("before a push", with(Check.wide(0, Check.code(3, 32)), 0, 0), OPCODE);
        CHECK.faults("an idle jump too", Check.wide(0, Check.code(1 | H, 128 | 64)), OPCODE);
        int[] none = {37, 38, 39, 52, 58, 59, 60, 61, 62, 63};
        for (int kind : none) {
            for (int flags = 0; flags < 256; flags += 64) {
                CHECK.faults("kind " + kind, Check.wide(510, Check.code(kind | flags, 0)), OPCODE);
            }
        }
    }

    private static void numbers() {
        long[] nowhere = {-1, 512, 509, -4, 1L << 32, Long.MAX_VALUE, Long.MIN_VALUE};
        for (long address : nowhere) {
            String what = "at " + address;
            CHECK.faults(what + " compare",
                    with(Check.wide(0, Check.code(5, AT_B | 0x11)), 1, address), ADDRESS);
            CHECK.faults(what + " first",
                    with(Check.wide(0, Check.code(12, AT_A | 0x21)), 1, address), ADDRESS);
            CHECK.faults(what + " second",
                    with(Check.wide(0, Check.code(12, AT_B | 0x12)), 1, address), ADDRESS);
            CHECK.faults(what + " not",
                    with(Check.wide(0, Check.code(10, AT_A | 0x21)), 1, address), ADDRESS);
            CHECK.faults(what + " move from",
                    with(Check.wide(0, Check.code(31, AT_B | 0x12)), 1, address), ADDRESS);
            CHECK.faults(what + " move to",
                    with(Check.wide(0, Check.code(31, AT_A | 0x21)), 1, address), ADDRESS);
            CHECK.faults(what + " jump",
                    with(Check.narrow(0, Check.code(1, AT_A | 1)), 1, address), ADDRESS);
            CHECK.faults(what + " call",
                    with(Check.narrow(0, Check.code(3, AT_A | 1)), 1, address), ADDRESS);
            CHECK.faults(what + " push",
                    with(Check.wide(0, Check.code(43, AT_A | 1)), 1, address), ADDRESS);
            CHECK.faults(what + " put",
                    with(Check.wide(0, Check.code(55 | H, AT_A | 0x21).i16(1)), 1, address), ADDRESS);
            CHECK.faults(what + " index",
                    with(Check.narrow(0, Check.code(56 | H, AT_A | 1).i16(1)), 1, address), ADDRESS);
            CHECK.faults(what + " relative",
                    with(Check.narrow(0, Check.code(57 | H, AT_A | 1).i16(1)), 1, address), ADDRESS);
            CHECK.faults(what + " immediate",
                    with(Check.wide(0, Check.code(45, AT_A | 1).i16(0)), 1, address), ADDRESS);
        }
        CHECK.faults("the sizes count: 8 at 505",
                with(Check.wide(0, Check.code(12 | H, AT_B | 0x12)), 1, 505), ADDRESS);
        CHECK.steps("8 at 504",
                with(Check.wide(0, Check.code(12 | H, AT_B | 0x12)), 1, 504), 12);
        CHECK.faults("a low byte of 4 at 509",
                with(Check.wide(0, Check.code(26, AT_B | 0x12)), 1, 509), ADDRESS);
        CHECK.steps("an address that wraps",
                with(Check.wide(0, Check.code(29 | H, AT_B | 0x12).i16(9)), 1, -5), 29);
    }

    private static void divide() {
        for (int kind = 16; kind <= 19; kind++) {
            NaturalMachine m = with(Check.wide(0, Check.code(kind, Check.ab(1, 2))), 1, 7);
            CHECK.faults("by 0", m, DIVIDE);
            m = with(with(Check.wide(0, Check.code(kind, Check.ab(1, 2))), 1, 7), 2, 1L << 32);
            CHECK.faults("by what is 0 in 4 bytes", m, DIVIDE);
            m = with(with(Check.wide(0, Check.code(kind | H, Check.ab(1, 2))), 1, 7), 2, 1L << 32);
            CHECK.steps("but not in 8", m, kind);
            m = with(Check.wide(0, Check.code(kind | T, Check.ab(1, 2)).i16(-5)), 2, 5);
            CHECK.faults("by 5 - 5", m, DIVIDE);
            m = with(Check.wide(0, Check.code(kind, AT_A | Check.ab(1, 2))), 1, 509);
            CHECK.faults("the first's address before it", m, ADDRESS);
            m = with(Check.wide(0, Check.code(kind, AT_B | Check.ab(1, 2))), 2, 100);
            CHECK.faults("by 0 in memory", m, DIVIDE);
            m = with(Check.wide(0, Check.code(kind, AT_B | Check.ab(1, 2))), 2, 510);
            CHECK.faults("the second's address before it", m, ADDRESS);
        }
    }

    private static void writes() {
        NaturalMachine m = with(with(Check.wide(0, Check.code(32, AT_A | Check.ab(1, 2))), 1, 508), 2, -1);
        CHECK.faults("half of it would lie in the memory", m, ADDRESS);
        m = with(with(Check.wide(0, Check.code(32, AT_A | Check.ab(1, 2))), 1, -4), 2, -1);
        CHECK.faults("the other half", m, ADDRESS);
        m = with(Check.wide(0, Check.code(42, 1)), 1, 9);
        CHECK.steps("no fault", m, 42);
        CHECK.due("no fault: fault()", m.fault(), NaturalMachine.NO_FAULT);
    }

    private static void stack() {
        long[] tops = {0, 3, -1, 517, 1000, Long.MIN_VALUE};
        for (long top : tops) {
            CHECK.faults("push at " + top, with(Check.wide(16, Check.code(43, 1)), 0, top), ADDRESS);
            CHECK.faults("call at " + top, with(Check.narrow(16, Check.code(3, 1)), 0, top), ADDRESS);
        }
        long[] bottoms = {-1, 509, 511, 513, Long.MAX_VALUE};
        for (long bottom : bottoms) {
            CHECK.faults("pop at " + bottom, with(Check.wide(16, Check.code(44, 1)), 0, bottom), ADDRESS);
            CHECK.faults("return at " + bottom, with(Check.narrow(16, Check.code(4, 1)), 0, bottom), ADDRESS);
        }
        CHECK.faults("pop at 512", Check.wide(16, Check.code(44, 1)), ADDRESS);
        NaturalMachine m = with(with(Check.wide(16, Check.code(44, AT_A | 1)), 0, 100), 1, 510);
        CHECK.faults("pop to where there is no memory", m, ADDRESS);
        CHECK.due("pop to where there is no memory: R0", m.register(0), 100);
        CHECK.steps("push to 0", with(Check.wide(16, Check.code(43, 1)), 0, 4), 43);
    }

    private static void nothingElseChanges() {
        NaturalMachine m = with(Check.wide(40, Check.code(41, Check.ab(0, 3)).then(5, AT_B | 1)), 3, 1);
        CHECK.steps("condition true", m, 41);
        m.setRegister(0, -1);
        CHECK.faults("a comparison leaves the condition", Check.code(5, AT_B | 1).into(m, 60), ADDRESS);
        CHECK.due("the condition", m.condition(), true);
        CHECK.faults("so does 41", Check.code(41, AT_A | Check.ab(0, 2)).into(m, 60), OPCODE);
        CHECK.due("the condition", m.condition(), true);
        CHECK.due("the ip", m.ip(), 60);
    }
}
