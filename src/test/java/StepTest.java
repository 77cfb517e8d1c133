/** Promise 7: what each kind does, by cases whose answers are written out from the document. */
public final class StepTest {
    private static final Check CHECK = new Check("StepTest");
    private static final int H = Check.H, T = Check.T, AT_A = Check.AT_A, AT_B = Check.AT_B;
    private static final long LOW = 0xffffffffL;

    public static void main(String[] args) {
        shortJump();
        jump();
        jumpThroughPointer();
        call();
        comeBack();
        compare();
        compareSecond();
        compareImmediate();
        unary();
        arithmetic();
        division();
        bitsAndShifts();
        extend();
        firstAndSecondInMemory();
        moveSizes();
        moveIndexes();
        movePointer();
        special();
        push();
        pop();
        putImmediate();
        putIndex();
        putRelative();
        bitsThatDoNothing();
        CHECK.end();
    }

    private static void goes(String what, NaturalMachine m, int kind, long ip) {
        CHECK.steps(what, m, kind);
        CHECK.due(what + ": ip()", m.ip(), ip);
        CHECK.due(what + ": state()", m.state(), NaturalMachine.RUNNING);
        CHECK.due(what + ": fault()", m.fault(), NaturalMachine.NO_FAULT);
    }

    private static void shortJump() {
        goes("jump by 5", Check.wide(10, Check.code(2, 5)), 2, 22);
        goes("jump by -6 (H does nothing)", Check.wide(10, Check.code(2 | H, 0xfa)), 2, 0);
        goes("jump by -128", Check.wide(300, Check.code(2, 0x80)), 2, 46);
        goes("jump by 127", Check.wide(300, Check.code(2, 0x7f)), 2, 556);
        goes("jump out of the memory", Check.wide(0, Check.code(2, 0xfe)), 2, -2);
        goes("T, condition false", Check.wide(10, Check.code(2 | T, 5)), 2, 22);
        goes("T and H, condition false", Check.wide(10, Check.code(2 | T | H, 5)), 2, 12);
        goes("T, condition true", Check.whenTrue(Check.wide(10, Check.code(2 | T, 5))), 2, 12);
        goes("T and H, condition true", Check.whenTrue(Check.wide(10, Check.code(2 | T | H, 5))), 2, 22);
    }

    private static void jump() {
        goes("to R3", Check.with(Check.wide(0, Check.code(1, 3)), 3, 77), 1, 77);
        goes("A is 0: base 0", Check.wide(9, Check.code(1, 0)), 1, 0);
        goes("to 64 bits", Check.with(Check.narrow(0, Check.code(1, 3)), 3, -5), 1, -5);
        goes("R3 + immediate", Check.with(Check.wide(0, Check.code(1 | T, 3).i32(-7)), 3, 77), 1, 70);
        goes("immediate alone", Check.wide(0, Check.code(1 | T, 0).i32(100)), 1, 100);
        goes("immediate of 64", Check.narrow(0, Check.code(1 | T | H, 0).i64(1L << 40)), 1, 1L << 40);
        goes("NEXT is added", Check.wide(20, Check.code(1 | T, 16).i32(100)), 1, 126);
        goes("NEXT is added behind 64 bits", Check.wide(20, Check.code(1 | T | H, 16).i64(-30)), 1, 0);
        goes("NEXT alone", Check.wide(20, Check.code(1, 16)), 1, 22);
        goes("32 and 64 alone do nothing", Check.with(Check.wide(0, Check.code(1, 32 | 64 | 3)), 3, 77), 1, 77);
        goes("128, false", Check.wide(0, Check.code(1 | T, 128).i32(100)), 1, 100);
        goes("128 and 64, false", Check.wide(0, Check.code(1 | T, 128 | 64).i32(100)), 1, 6);
        goes("128, true", Check.whenTrue(Check.wide(0, Check.code(1 | T, 128).i32(100))), 1, 6);
        goes("128 and 64, true", Check.whenTrue(Check.wide(0, Check.code(1 | T, 128 | 64).i32(100))), 1, 100);
        goes("idle, with NEXT told", Check.wide(0, Check.code(1 | T | H, 128 | 64 | 16).i64(100)), 1, 10);
    }

    private static void jumpThroughPointer() {
        long far = 0x1122334455667788L;
        NaturalMachine m = Check.with(Check.wide(0, Check.code(1, AT_A | 3)), 3, 100);
        m.store(100, far, 8);
        goes("pointer at R3", m, 1, far);
        m = Check.with(Check.narrow(0, Check.code(1, AT_A | 3)), 3, 100);
        m.store(100, -2, 8);
        goes("pointer of 4, the bits above 0", m, 1, 0xfffffffeL);
        // An index of 32 bits with k = 1, width 4: u = 2, c = 3.
        long index = 1L << 28 | 3 << 4 | 2;
        m = Check.with(Check.wide(0, Check.code(1 | T, AT_A | 3).i32(index)), 3, 100);
        m.store(119, 40, 8);
        goes("at R3 + the index, P = 8", m, 1, 40);
        m = Check.with(Check.narrow(0, Check.code(1 | T, AT_A | 3).i32(index)), 3, 100);
        m.store(111, 41, 4);
        goes("at R3 + the index, P = 4", m, 1, 41);
        m = Check.wide(0, Check.code(1 | T | H, AT_A | 16).i64(300));
        m.store(300, 50, 8);
        goes("at the index of 64, NEXT added", m, 1, 60);
        m = Check.with(Check.narrow(0, Check.code(1, AT_A | 16 | 3)), 3, 100);
        m.store(100, -1, 4);
        goes("pointer of 4 and NEXT", m, 1, LOW + 2);
        m = Check.with(Check.wide(0, Check.code(1, 128 | 64 | AT_A | 3)), 3, -1);
        goes("a jump that does nothing needs no pointer", m, 1, 2);
    }

    private static void call() {
        NaturalMachine m = Check.with(Check.wide(0x30, Check.code(3, 3)), 3, 77);
        goes("call", m, 3, 77);
        CHECK.due("call: R0", m.register(0), 504);
        CHECK.due("call: what is pushed", Check.number(m, 504, 8), 0x32);
        m = Check.narrow(0x30, Check.code(3 | T, 16).i32(10));
        m.store(504, -1, 8);
        goes("call, NEXT added", m, 3, 0x40);
        CHECK.due("call of P = 4: R0", m.register(0), 508);
        CHECK.due("call of P = 4: NEXT", Check.number(m, 508, 4), 0x36);
        CHECK.due("call of P = 4: below", Check.number(m, 504, 4), LOW);
        m = Check.wide(0, Check.code(3 | T | H, 0).i64(-9));
        goes("call of 64 bits", m, 3, -9);
        CHECK.due("call of 64 bits: NEXT", Check.number(m, 504, 8), 10);
        m = Check.with(Check.wide(0, Check.code(3, AT_A | 1)), 1, 504);
        m.store(504, 60, 8);
        goes("the pointer is read before NEXT is pushed over it", m, 3, 60);
        CHECK.due("and NEXT lies there", Check.number(m, 504, 8), 2);
    }

    private static void comeBack() {
        NaturalMachine m = Check.wide(8, Check.code(4 | H | T, 0xff));
        CHECK.steps("done", m, 4);
        CHECK.due("done: state()", m.state(), NaturalMachine.DONE);
        CHECK.due("done: ip()", m.ip(), 10);
        CHECK.due("done: R0", m.register(0), 512);
        CHECK.due("done: fault()", m.fault(), NaturalMachine.NO_FAULT);
        m = Check.with(Check.wide(0, Check.code(4, 0)), 0, 504);
        m.store(504, -3, 8);
        goes("pointer of 8", m, 4, -3);
        CHECK.due("pointer of 8: R0", m.register(0), 512);
        m = Check.with(Check.narrow(0, Check.code(4, 0)), 0, 100);
        m.store(100, -3, 8);
        goes("pointer of 4", m, 4, LOW - 2);
        CHECK.due("pointer of 4: R0", m.register(0), 104);
    }

    /** The condition behind kind 5 to 9 of R1 and R2. */
    private static void compared(int kindAndFlags, long first, long second, boolean so) {
        for (int before = 0; before < 2; before++) {
            NaturalMachine m = Check.wide(0, Check.code(kindAndFlags, Check.ab(1, 2)));
            if (before == 1) {
                Check.whenTrue(m);
            }
            m.setRegister(1, first);
            m.setRegister(2, second);
            String what = "kind and flags " + kindAndFlags + " of " + first + " and " + second;
            goes(what, m, kindAndFlags % 64, 2);
            CHECK.due(what, m.condition(), so);
        }
    }

    private static void compare() {
        long[][] rows = {
            // first, second, and of the kinds 5 to 9 those that are so with size 4, and with size 8, as bits
            {5, 5, 0b11111, 0b11111}, {4, 5, 0b01010, 0b01010}, {5, 4, 0b10100, 0b10100},
            {-1, 1, 0b10010, 0b10010}, {1, -1, 0b01100, 0b01100},
            {1L << 32 | 5, 5, 0b11111, 0b10100}, {5, 1L << 32 | 5, 0b11111, 0b01010},
            {0x80000000L, 1, 0b10010, 0b10100}, {0x7fffffffL, 0x80000000L, 0b01100, 0b01010},
            {Long.MIN_VALUE, Long.MAX_VALUE, 0b01100, 0b10010}, {0xffffffffL, -1, 0b11111, 0b01100}
        };
        for (long[] row : rows) {
            for (int i = 0; i < 5; i++) {
                compared(5 + i, row[0], row[1], (row[2] >> i & 1) == 1);
                compared(5 + i | H, row[0], row[1], (row[3] >> i & 1) == 1);
            }
        }
    }

    private static void compareSecond() {
        NaturalMachine m = Check.with(Check.wide(0, Check.code(5 | T, Check.ab(1, 2)).i16(-3)), 1, 7, 2, 10);
        goes("R2 + immediate", m, 5, 4);
        CHECK.due("R2 + immediate", m.condition(), true);
        m = Check.with(Check.wide(0, Check.code(5 | H, AT_B | Check.ab(1, 2))), 1, 7L << 32, 2, 100);
        m.store(100, 7L << 32, 8);
        goes("8 bytes at R2", m, 5, 2);
        CHECK.due("8 bytes at R2", m.condition(), true);
        m = Check.with(Check.wide(0, Check.code(5, AT_B | Check.ab(1, 2))), 1, 7, 2, 508);
        m.store(508, 7, 4);
        goes("4 bytes at R2", m, 5, 2);
        CHECK.due("4 bytes at R2", m.condition(), true);
        // An index of 16 bits, negative, width 2: u = 1, c = 1.
        m = Check.with(Check.narrow(0, Check.code(5 | T, AT_B | Check.ab(1, 2)).i16(0x9005)), 1, 7, 2, 105);
        m.store(100, 7, 4);
        goes("4 bytes at R2 + index", m, 5, 4);
        CHECK.due("4 bytes at R2 + index", m.condition(), true);
    }

    private static void compareImmediate() {
        NaturalMachine m = Check.with(Check.wide(0, Check.code(45, 1).i16(-2)), 1, 0xfffffffeL);
        goes("R1 with 16 bits", m, 45, 4);
        CHECK.due("R1 with 16 bits", m.condition(), true);
        m = Check.with(Check.wide(0, Check.code(45 | H, 1).i16(-2)), 1, 0xfffffffeL);
        goes("8 bytes with 16 bits", m, 45, 4);
        CHECK.due("8 bytes with 16 bits", m.condition(), false);
        m = Check.with(Check.wide(0, Check.code(46 | T, 1).i32(100000)), 1, 99999);
        goes("at most, 32 bits", m, 46, 6);
        CHECK.due("at most, 32 bits", m.condition(), true);
        m = Check.with(Check.wide(0, Check.code(47 | T | H, 1).i32(-5)), 1, -5);
        goes("at least, 32 bits", m, 47, 6);
        CHECK.due("at least, 32 bits", m.condition(), true);
        m = Check.with(Check.wide(0, Check.code(48 | H, 1).i16(-1)), 1, -2);
        goes("at most, unsigned", m, 48, 4);
        CHECK.due("at most, unsigned", m.condition(), true);
        m = Check.with(Check.wide(0, Check.code(49, 1).i16(-1)), 1, 5);
        goes("at least, unsigned", m, 49, 4);
        CHECK.due("at least, unsigned", m.condition(), false);
        m = Check.with(Check.wide(0, Check.code(45, AT_A | 1).i16(9)), 1, 508);
        m.store(508, 9, 4);
        goes("number at R1", m, 45, 4);
        CHECK.due("number at R1", m.condition(), true);
        m = Check.with(Check.wide(0, Check.code(45 | T | H, 16 | AT_A | 1).i16(0x1001).i32(-9)), 1, 100);
        m.store(108, -9, 8);
        goes("number at R1 + index", m, 45, 8);
        CHECK.due("number at R1 + index", m.condition(), true);
    }

    /** What R1 is behind a kind of R1 and R2. */
    private static void gives(int kindAndFlags, long first, long second, long result) {
        NaturalMachine m = Check.wide(0, Check.code(kindAndFlags, Check.ab(1, 2)));
        m.setRegister(1, first);
        m.setRegister(2, second);
        String what = "kind and flags " + kindAndFlags + " of " + first + " and " + second;
        goes(what, m, kindAndFlags % 64, 2);
        CHECK.due(what, m.register(1), result);
        CHECK.due(what + ": R2", m.register(2), second);
        CHECK.due(what + ": condition", m.condition(), false);
    }

    private static void unary() {
        gives(10, -1, 5, 0xfffffffaL);
        gives(10 | H, -1, 5, ~5L);
        gives(11, -1, 5, 0xfffffffbL);
        gives(11 | H, -1, 5, -5);
        gives(11, 0, 0x80000000L, 0x80000000L);
        gives(11 | H, 0, Long.MIN_VALUE, Long.MIN_VALUE);
    }

    private static void arithmetic() {
        gives(12, 0xffffffffL, 2, 1);
        gives(12 | H, 0xffffffffL, 2, 0x100000001L);
        gives(12 | H, Long.MAX_VALUE, 1, Long.MIN_VALUE);
        gives(12, 5L << 32 | 1, 6L << 32 | 2, 3);
        gives(13, 3, 5, 0xfffffffeL);
        gives(13 | H, 3, 5, -2);
        for (int kind = 14; kind <= 15; kind++) {
            gives(kind, 0x10001, 0x10001, 0x20001);
            gives(kind, -3, 5, 0xfffffff1L);
            gives(kind | H, -3, 5, -15);
            gives(kind | H, 1L << 62, 4, 0);
        }
    }

    private static void division() {
        gives(16, 7, 0xfffffffeL, 0xfffffffdL);
        gives(16 | H, -7, 2, -3);
        gives(16 | H, 7, 0xfffffffeL, 0);
        gives(16, 0x80000000L, 0xffffffffL, 0x80000000L);
        gives(16 | H, Long.MIN_VALUE, -1, Long.MIN_VALUE);
        gives(17, 0xffffffffL, 2, 0x7fffffff);
        gives(17, 7, 0xffffffffL, 0);
        gives(17, -1, 0x700000010L, 0x0fffffff);
        gives(17 | H, -1, 2, Long.MAX_VALUE);
        gives(17 | H, -1, -1, 1);
        gives(18, -7, 2, 0xffffffffL);
        gives(18 | H, -7, 2, -1);
        gives(18 | H, 7, -2, 1);
        gives(18, 0x80000000L, 0xffffffffL, 0);
        gives(18 | H, Long.MIN_VALUE, -1, 0);
        gives(19, 0xffffffffL, 10, 5);
        gives(19 | H, -1, 10, 5);
        gives(19 | H, -1, Long.MIN_VALUE, Long.MAX_VALUE);
        gives(19, 5, 0xfffffffeL, 5);
    }

    private static void bitsAndShifts() {
        gives(20, -1, 0xf0f0f0f0f0f0f0f0L, 0xf0f0f0f0L);
        gives(20 | H, -1, 0xf0f0f0f0f0f0f0f0L, 0xf0f0f0f0f0f0f0f0L);
        gives(21, 0x0f, 0xf0f0f0f0f0f0f0f0L, 0xf0f0f0ffL);
        gives(21 | H, 0x0f, 0xf0f0f0f0f0f0f0f0L, 0xf0f0f0f0f0f0f0ffL);
        gives(22, -1, 0xff, 0xffffff00L);
        gives(22 | H, -1, 0xff, ~0xffL);
        gives(23, 1, 31, 0x80000000L);
        gives(23, 1, 32, 1);
        gives(23, 3, -1, 0x80000000L);
        gives(23 | H, 1, 32, 1L << 32);
        gives(23 | H, 1, 64, 1);
        gives(23 | H, 1, -1, Long.MIN_VALUE);
        gives(24, -1, 4, 0x0fffffff);
        gives(24, -1, 33, 0x7fffffff);
        gives(24 | H, -1, 60, 15);
        gives(25, 0x80000000L, 4, 0xf8000000L);
        gives(25, 0x7fffffff00000000L, 4, 0);
        gives(25 | H, Long.MIN_VALUE, 63, -1);
        gives(25 | H, 0x80000000L, 4, 0x08000000);
    }

    private static void extend() {
        gives(26, 0, 0x1280, 0xffffff80L);
        gives(26 | H, 0, 0x1280, -128);
        gives(26 | H, 0, 0x817f, 127);
        gives(27, 0, 0x128000, 0xffff8000L);
        gives(27 | H, 0, 0x128000, -32768);
        gives(28, 0, 0x180000000L, 0x80000000L);
        gives(28 | H, 0, 0x180000000L, -0x80000000L);
    }

    private static void firstAndSecondInMemory() {
        NaturalMachine m = Check.wide(0, Check.code(13 | T, AT_A | Check.ab(1, 2)).i16(5));
        m.setRegister(1, 508);
        m.setRegister(2, 100);
        m.store(504, -1, 4);
        m.store(508, 300, 4);
        goes("number at R1 less R2 + 5", m, 13, 4);
        CHECK.due("number at R1 less R2 + 5", Check.number(m, 508, 4), 195);
        CHECK.due("bytes below", Check.number(m, 504, 4), LOW);
        CHECK.due("R1", m.register(1), 508);
        m = Check.wide(0, Check.code(12 | H | T, AT_A | AT_B | Check.ab(1, 2)).i16(0x1001));
        m.setRegister(1, 100);
        m.setRegister(2, 200);
        m.store(100, 1, 8);
        m.store(208, -3, 8);
        goes("sum of two in memory", m, 12, 4);
        CHECK.due("sum of two in memory", Check.number(m, 100, 8), -2);
        m = Check.wide(0, Check.code(10, AT_A | Check.ab(1, 1)));
        m.setRegister(1, 100);
        m.store(104, 7, 1);
        goes("NOT of R1 at R1", m, 10, 2);
        CHECK.due("NOT of R1 at R1", Check.number(m, 100, 4), 0xffffffffL - 100);
        CHECK.due("the byte behind", m.peek(104), 7);
    }

    private static void moveSizes() {
        long v = 0x8899aabbccddeeffL;
        int[] kinds = {29, 30, 31, 32, 33, 34, 35, 36, 40};
        int[] sizes = {1, 2, 4, 8, 1, 2, 4, 8, 8};
        for (int i = 0; i < kinds.length; i++) {
            String what = "move " + kinds[i];
            long part = sizes[i] == 8 ? v : v & (1L << 8 * sizes[i]) - 1;
            NaturalMachine m = Check.with(Check.wide(0, Check.code(kinds[i], Check.ab(1, 2))), 1, -1, 2, v);
            goes(what, m, kinds[i], 2);
            CHECK.due(what + ": register to register", m.register(1), part);
            m = Check.with(Check.narrow(0, Check.code(kinds[i], AT_A | Check.ab(1, 2))), 1, 100, 2, v);
            m.store(100, 0, 8);
            goes(what, m, kinds[i], 2);
            CHECK.due(what + ": register to memory", Check.number(m, 100, 8), part);
            m = Check.with(Check.wide(0, Check.code(kinds[i], AT_B | Check.ab(1, 2))), 1, -1, 2, 512 - sizes[i]);
            m.store(512 - sizes[i], v, sizes[i]);
            goes(what, m, kinds[i], 2);
            CHECK.due(what + ": memory to register", m.register(1), part);
            m = Check.with(Check.wide(0, Check.code(kinds[i], AT_A | AT_B | Check.ab(1, 2))), 1, 100, 2, 200);
            m.store(200, v, 8);
            goes(what, m, kinds[i], 2);
            CHECK.due(what + ": memory to memory", Check.number(m, 100, 8), part);
        }
    }

    private static void moveIndexes() {
        int[] kinds = {29, 32, 33, 36, 40, 50, 51};
        int[] bits = {16, 16, 32, 32, 64, 16, 32};
        for (int i = 0; i < kinds.length; i++) {
            int size = bits[i] / 8;
            String what = "move with indexes " + kinds[i];
            // k = 1: u = 1 and, above the width, c = 2 for the first and, negative, c = 1 for the second.
            long head = 1L << bits[i] - 4;
            long first = head | 2L << bits[i] / 8 | 1;
            long second = head | 1L << bits[i] - 1 | 1L << bits[i] / 8 | 1;
            Check.Code code = Check.code(kinds[i] | T | H, AT_A | AT_B | Check.ab(1, 2)).put(first, size);
            NaturalMachine m = Check.wide(0, code.put(second, size));
            m.setRegister(1, 100);
            m.setRegister(2, 209);
            m.store(200, 77, 1);
            goes(what, m, kinds[i], 2 + 2 * size);
            CHECK.due(what + ": memory to memory", m.peek(110), 77);
            m = Check.narrow(0, Check.code(kinds[i] | H, Check.ab(1, 2)).put(second, size));
            m.setRegister(1, -1);
            m.setRegister(2, 105);
            goes(what, m, kinds[i], 2 + size);
            CHECK.due(what + ": R2 + value", m.register(1), 100);
            m = Check.narrow(0, Check.code(kinds[i] | T, AT_A | Check.ab(1, 2)).put(first, size));
            m.setRegister(1, 300);
            m.setRegister(2, 9);
            goes(what, m, kinds[i], 2 + size);
            CHECK.due(what + ": to R1 + value", m.peek(306), 9);
        }
    }

    private static void movePointer() {
        for (int kind = 50; kind <= 51; kind++) {
            NaturalMachine m = Check.with(Check.narrow(0, Check.code(kind, Check.ab(1, 2))), 2, -1);
            goes("pointer of 4", m, kind, 2);
            CHECK.due("pointer of 4", m.register(1), LOW);
            m = Check.with(Check.wide(0, Check.code(kind, Check.ab(1, 2))), 2, -1);
            goes("pointer of 8", m, kind, 2);
            CHECK.due("pointer of 8", m.register(1), -1);
            m = Check.with(Check.narrow(0, Check.code(kind, AT_A | Check.ab(1, 2))), 1, 508, 2, -1);
            goes("pointer of 4 to the end", m, kind, 2);
            CHECK.due("pointer of 4 to the end", Check.number(m, 504, 8), LOW << 32);
        }
    }

    private static void special() {
        Check.Code both = Check.code(41, Check.ab(0, 3)).then(41, Check.ab(0, 2));
        NaturalMachine m = Check.with(Check.wide(0, both), 3, -1);
        goes("odd", m, 41, 2);
        CHECK.due("odd", m.condition(), true);
        m.setRegister(2, 1L << 40 | 2);
        goes("even", m, 41, 4);
        CHECK.due("even", m.condition(), false);
        m = Check.with(Check.wide(0, Check.code(42, 5)), 5, -1);
        goes("condition false", m, 42, 2);
        CHECK.due("condition false", m.register(5), 0);
        m = Check.whenTrue(Check.with(Check.wide(0, Check.code(42, 5)), 5, -1));
        goes("condition true", m, 42, 2);
        CHECK.due("condition true", m.register(5), 1);
        m = Check.with(Check.narrow(30, Check.code(42, Check.ab(5, 1))), 5, -1);
        goes("NEXT", m, 42, 32);
        CHECK.due("NEXT", m.register(5), 32);
    }

    private static void push() {
        long v = 0x1122334455667788L;
        NaturalMachine m = Check.with(Check.wide(0, Check.code(43, 1)), 1, v);
        m.store(500, -1, 8);
        goes("push of 4", m, 43, 2);
        CHECK.due("push of 4: R0", m.register(0), 508);
        CHECK.due("push of 4: number", Check.number(m, 508, 4), 0x55667788L);
        CHECK.due("push of 4: below", Check.number(m, 504, 4), LOW);
        m = Check.with(Check.wide(0, Check.code(43 | H | T, 1).i16(-8)), 1, v);
        goes("push of 8", m, 43, 4);
        CHECK.due("push of 8: R0", m.register(0), 504);
        CHECK.due("push of 8: number", Check.number(m, 504, 8), v - 8);
        m = Check.wide(0, Check.code(43 | H, 0));
        goes("push of R0", m, 43, 2);
        CHECK.due("push of R0: as it was before", Check.number(m, 504, 8), 512);
        m = Check.with(Check.narrow(0, Check.code(53 | T, AT_A | 1).i16(0x1001)), 1, 96);
        m.store(100, v, 8);
        goes("push of a pointer of 4", m, 53, 4);
        CHECK.due("push of a pointer of 4: R0", m.register(0), 508);
        CHECK.due("push of a pointer of 4: number", Check.number(m, 508, 4), 0x55667788L);
        m = Check.with(Check.wide(0, Check.code(53, AT_A | 1)), 1, 100);
        m.store(100, v, 8);
        goes("push of a pointer of 8", m, 53, 2);
        CHECK.due("push of a pointer of 8: R0", m.register(0), 504);
        CHECK.due("push of a pointer of 8: number", Check.number(m, 504, 8), v);
    }

    private static void pop() {
        NaturalMachine m = Check.with(Check.wide(0, Check.code(44, 1)), 0, 100);
        m.store(100, 0x80000001L, 8);
        goes("pop of 4", m, 44, 2);
        CHECK.due("pop of 4: signed", m.register(1), -0x7fffffffL);
        CHECK.due("pop of 4: R0", m.register(0), 104);
        m = Check.with(Check.wide(0, Check.code(44 | H | T, 1).i16(-2)), 0, 504);
        m.store(504, 1, 8);
        goes("pop of 8", m, 44, 4);
        CHECK.due("pop of 8: number", m.register(1), -1);
        CHECK.due("pop of 8: R0", m.register(0), 512);
        m = Check.with(Check.narrow(0, Check.code(54 | T, 1).i16(1)), 0, 100);
        m.store(100, LOW, 8);
        goes("pop of a pointer of 4", m, 54, 4);
        CHECK.due("pop of a pointer of 4: number", m.register(1), 0);
        CHECK.due("pop of a pointer of 4: R0", m.register(0), 104);
        m = Check.with(Check.wide(0, Check.code(54, 1)), 0, 100);
        m.store(100, LOW, 8);
        goes("pop of a pointer of 8", m, 54, 2);
        CHECK.due("pop of a pointer of 8: number", m.register(1), LOW);
        CHECK.due("pop of a pointer of 8: R0", m.register(0), 108);
        popIntoR0();
        popToMemory();
    }

    private static void popIntoR0() {
        NaturalMachine m = Check.with(Check.wide(0, Check.code(44 | T, 0).i16(3)), 0, 100);
        m.store(100, 200, 4);
        goes("pop into R0", m, 44, 4);
        CHECK.due("pop into R0", m.register(0), 203);
    }

    private static void popToMemory() {
        NaturalMachine m = Check.with(Check.wide(0, Check.code(44 | T, AT_A).i16(0x9001)), 0, 100);
        m.store(100, 200, 4);
        goes("pop to R0 as it was, less 8", m, 44, 4);
        CHECK.due("pop to R0 as it was, less 8", Check.number(m, 92, 8), 200);
        CHECK.due("pop to R0 as it was: R0", m.register(0), 104);
        m = Check.with(Check.wide(0, Check.code(54, AT_A | 1)), 0, 100, 1, 300);
        m.store(100, -5, 8);
        goes("pop of a pointer to R1", m, 54, 2);
        CHECK.due("pop of a pointer to R1: number", Check.number(m, 300, 8), -5);
        CHECK.due("pop of a pointer to R1: R1", m.register(1), 300);
        CHECK.due("pop of a pointer to R1: R0", m.register(0), 108);
    }

    private static void putImmediate() {
        long[] due = {0xfe, 0xfffe, 0xfffffffeL, -2};
        for (int size = 0; size < 4; size++) {
            NaturalMachine m = Check.with(Check.wide(0, Check.code(55 | H, Check.ab(1, size)).i16(-2)), 1, 5);
            goes("immediate of 16", m, 55, 4);
            CHECK.due("immediate of 16, size " + size, m.register(1), due[size]);
            m = Check.with(Check.wide(0, Check.code(55 | T, AT_A | Check.ab(1, size)).i32(-2)), 1, 100);
            goes("immediate of 32", m, 55, 6);
            CHECK.due("immediate of 32, size " + size, Check.number(m, 100, 8), due[size]);
            m = Check.with(Check.narrow(0, Check.code(55 | T | H, Check.ab(1, size)).i64(-2)), 1, 5);
            goes("immediate of 64", m, 55, 10);
            CHECK.due("immediate of 64, size " + size, m.register(1), due[size]);
        }
        NaturalMachine m = Check.wide(0, Check.code(55 | T, 64 | AT_A | Check.ab(1, 1)).i16(0x1001).i32(0x12345));
        m.setRegister(1, 100);
        goes("index before the immediate", m, 55, 8);
        CHECK.due("index before the immediate", Check.number(m, 104, 8), 0x2345L << 32);
    }

    private static void putIndex() {
        NaturalMachine m = Check.wide(0, Check.code(56 | H, 1).i16(0x9005));
        goes("index of 16", m, 56, 4);
        CHECK.due("index of 16, all 64 bits", m.register(1), -9);
        m = Check.narrow(0, Check.code(56 | T, 1).i32(0x10000012L));
        goes("index of 32", m, 56, 6);
        CHECK.due("index of 32", m.register(1), 1 + 2 * 4);
        m = Check.narrow(0, Check.code(56 | T | H, 1).i64(0x8000000000000001L));
        goes("index of 64", m, 56, 10);
        CHECK.due("index of 64 with P = 4, all 64 bits", m.register(1), -1);
        m = Check.wide(0, Check.code(56 | H, 1).i16(0x6002).then(56 | T, 2).i32(0x70000003L));
        goes("the greatest width of 16", m, 56, 4);
        CHECK.due("the greatest width of 16", m.register(1), 16);
        goes("the greatest width of 32", m, 56, 10);
        CHECK.due("the greatest width of 32", m.register(2), 24);
        m = Check.with(Check.narrow(0, Check.code(56 | H, 64 | AT_A | 1).i16(0x1001).i16(0x8001)), 1, 100);
        goes("index into memory", m, 56, 6);
        CHECK.due("index into memory, P = 4", Check.number(m, 100, 8), LOW << 32);
        CHECK.due("and behind it", m.peek(108), 0);
        m = Check.with(Check.wide(0, Check.code(56 | H, AT_A | 1).i16(0x8001)), 1, 100);
        goes("index into memory", m, 56, 4);
        CHECK.due("index into memory, P = 8", Check.number(m, 100, 8), -1);
    }

    private static void putRelative() {
        NaturalMachine m = Check.narrow(20, Check.code(57 | H, 1).i16(-30));
        goes("NEXT + 16 bits", m, 57, 24);
        CHECK.due("NEXT + 16 bits", m.register(1), -6);
        m = Check.wide(20, Check.code(57 | T, 1).i32(100));
        goes("NEXT + 32 bits", m, 57, 26);
        CHECK.due("NEXT + 32 bits", m.register(1), 126);
        m = Check.wide(20, Check.code(57 | T | H, 1).i64(1L << 50));
        goes("NEXT + 64 bits", m, 57, 30);
        CHECK.due("NEXT + 64 bits", m.register(1), (1L << 50) + 30);
        m = Check.with(Check.narrow(20, Check.code(57 | H, 64 | AT_A | 1).i16(2).i16(-27)), 1, 100);
        goes("NEXT + 16 bits into memory", m, 57, 26);
        CHECK.due("NEXT + 16 bits into memory", Check.number(m, 102, 8), LOW);
    }

    private static void bitsThatDoNothing() {
        NaturalMachine m = Check.with(Check.wide(0, Check.code(41 | H | T, Check.ab(0, 3))), 3, 1);
        goes("41 with H and T", m, 41, 2);
        CHECK.due("41 with H and T", m.condition(), true);
        m = Check.narrow(0, Check.code(42 | H | T, Check.ab(3, 1)));
        goes("42 with H and T", m, 42, 2);
        CHECK.due("42 with H and T", m.register(3), 2);
    }
}
