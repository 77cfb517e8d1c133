/**
 * Terms: least and greatest numbers, what wraps and what does not, and bits that do nothing. Each method
 * looks at the words of the document that stand above it.
 */
public final class TermsTest {
    private static final Check CHECK = new Check("TermsTest");
    private static final int H = Check.H, T = Check.T, AT_A = Check.AT_A, AT_B = Check.AT_B;
    private static final long LOW = 0xffffffffL;

    public static void main(String[] args) {
        immediates();
        immediatesOfCompares();
        widestIndexes();
        untoldBits();
        sizesInRegisters();
        shortJumps();
        bases();
        targetsAtIndexes();
        targetsThatWrap();
        secondsThatWrap();
        onlySoMuchCounts();
        orders();
        allWraps();
        rounding();
        shifts();
        lowBytes();
        odd();
        pushesThatWrap();
        popsAreSigned();
        stackOfR0();
        fullAndEmpty();
        relativeThatWraps();
        indexesAsPointers();
        CHECK.end();
    }

    /** What R1 is behind one instruction with R1 and R2 as told. */
    private static void gives(String what, NaturalMachine m, long first, long second, long due) {
        m.setRegister(1, first);
        m.setRegister(2, second);
        int kind = m.peek((int) m.ip()) % 64;
        CHECK.steps(what, m, kind);
        CHECK.due(what + ": R1", m.register(1), due);
    }

    private static void gives(int o, long first, long second, long due) {
        String what = "o " + o + " of " + first + " and " + second;
        gives(what, Check.wide(0, Check.code(o, Check.ab(1, 2))), first, second, due);
        gives(what, Check.narrow(0, Check.code(o, Check.ab(1, 2))), first, second, due);
    }

    /** "An IMMEDIATE of n bits is a signed number." */
    private static void immediates() {
        long[] short16 = {0, 1, 0x7fff, -0x8000, -1};
        long[] short32 = {0, 1, 0x7fff, 0x8000, Integer.MAX_VALUE, Integer.MIN_VALUE, -1};
        long[] all64 = {0, 1, 0x80000000L, LOW, Long.MAX_VALUE, Long.MIN_VALUE, -1};
        for (long v : short16) {
            gives("16 bits", Check.wide(0, Check.code(55 | H, Check.ab(1, 3)).i16(v)), 9, 9, v);
            gives("16 bits added", Check.wide(0, Check.code(12 | H | T, Check.ab(1, 2)).i16(v)), 10, 20, 30 + v);
        }
        for (long v : short32) {
            gives("32 bits", Check.wide(0, Check.code(55 | T, Check.ab(1, 3)).i32(v)), 9, 9, v);
            NaturalMachine m = Check.with(Check.wide(0, Check.code(1 | T, 3).i32(v)), 3, 100);
            CHECK.steps("jump by 32 bits", m, 1);
            CHECK.due("jump by 32 bits: ip", m.ip(), 100 + v);
        }
        for (long v : all64) {
            gives("64 bits", Check.wide(0, Check.code(55 | H | T, Check.ab(1, 3)).i64(v)), 9, 9, v);
            NaturalMachine m = Check.with(Check.wide(0, Check.code(1 | H | T, 3).i64(v)), 3, 100);
            CHECK.steps("jump by 64 bits", m, 1);
            CHECK.due("jump by 64 bits: ip", m.ip(), 100 + v);
        }
    }

    /** "compared with an immediate of 16 bits, or 32 with T" */
    private static void immediatesOfCompares() {
        long[] values = {0x7fff, -0x8000, -1, 0};
        for (long v : values) {
            compares("16 bits", Check.code(45 | H, 1).i16(v), v, true);
            compares("32 bits", Check.code(45 | H | T, 1).i32(v), v, true);
            compares("16 bits, size 4", Check.code(45, 1).i16(v), v & LOW, true);
        }
        compares("0x8000 is no number of 16 bits", Check.code(45 | H, 1).i16(0x8000), 0x8000, false);
        compares("it is one of 32", Check.code(45 | H | T, 1).i32(0x8000), 0x8000, true);
        compares("the greatest of 32", Check.code(45 | H | T, 1).i32(Integer.MAX_VALUE), 0x7fffffff, true);
        compares("the least of 32", Check.code(45 | H | T, 1).i32(Integer.MIN_VALUE), Integer.MIN_VALUE, true);
        compares("2 to the 31st is none", Check.code(45 | H | T, 1).i32(Integer.MIN_VALUE), 1L << 31, false);
        compares("unsigned, it is great", Check.code(48 | H, 1).i16(-1), Long.MIN_VALUE, true);
        compares("signed, it is small", Check.code(46 | H, 1).i16(-1), 0, false);
    }

    private static void compares(String what, Check.Code code, long r1, boolean so) {
        NaturalMachine m = Check.with(Check.wide(0, code), 1, r1);
        if (!so) {
            Check.whenTrue(m);
        }
        CHECK.steps(what, m, m.peek(0) % 64);
        CHECK.due(what + ": condition", m.condition(), so);
    }

    /** "A width of more than n - 4 is the fault INDEX": the greatest that there are, and the one beyond. */
    private static void widestIndexes() {
        gives("12 of 16", Check.wide(0, Check.code(56 | H, 1).i16(0x6fff)), 0, 0, 8 * 0xfff);
        gives("12 of 16, negative", Check.narrow(0, Check.code(56 | H, 1).i16(0xefff)), 0, 0, -4 * 0xfff);
        gives("28 of 32", Check.wide(0, Check.code(56 | T, 1).i32(0x7fffffff)), 0, 0, 8L * 0xfffffff);
        gives("28 of 32, negative", Check.narrow(0, Check.code(56 | T, 1).i32(-1)), 0, 0, -4L * 0xfffffff);
        gives("56 of 64", Check.wide(0, Check.code(56 | H | T, 1).i64(Long.MAX_VALUE)), 0, 0,
                15 + 8 * 0xffffffffffffffL);
        gives("56 of 64, negative", Check.narrow(0, Check.code(56 | H | T, 1).i64(-1)), 0, 0,
                -(15 + 4 * 0xffffffffffffffL));
        long[] tooWide = {0x7000, 0x7fff, 0xf000, 0xffff};
        for (long v : tooWide) {
            CHECK.faults("14 of 16", Check.wide(0, Check.code(56 | H, 1).i16(v)), NaturalMachine.INDEX);
        }
    }

    /** "bits that are not told of do nothing." */
    private static void untoldBits() {
        for (int more = 0; more < 256; more++) {
            int flags = more & 0xc0;
            same(Check.code(4, 0), Check.code(4 | flags, more));
            same(Check.code(41, Check.ab(0, 1)), Check.code(41 | flags, Check.ab(0, 1)));
            same(Check.code(42, Check.ab(1, more & 1)), Check.code(42 | flags, Check.ab(1, more & 1)));
            same(Check.code(2, more), Check.code(2 | H, more));
            same(Check.code(1 | T, more & 0xdf).i32(8), Check.code(1 | T, more | 32).i32(8));
            same(Check.code(1 | T, more & 0x3f).i32(8), Check.code(1 | T, more & 0x3f | 64).i32(8));
        }
    }

    /** Two instructions that do the same, whatever R0 and the condition are. */
    private static void same(Check.Code one, Check.Code other) {
        for (int i = 0; i < 4; i++) {
            NaturalMachine m = machineForBoth(one, i);
            NaturalMachine n = machineForBoth(other, i);
            CHECK.due("bits that do nothing: run(1)", n.run(1), m.run(1));
            CHECK.due("bits that do nothing: state", n.state(), m.state());
            CHECK.due("bits that do nothing: ip", n.ip(), m.ip());
            CHECK.due("bits that do nothing: condition", n.condition(), m.condition());
            for (int r = 0; r < 8; r++) {
                CHECK.due("bits that do nothing: register", n.register(r), m.register(r));
            }
        }
    }

    private static NaturalMachine machineForBoth(Check.Code code, int i) {
        NaturalMachine m = Check.wide(100, code);
        m.store(200, 0x0102, 2);
        for (int r = 1; r < 7; r++) {
            m.setRegister(r, 200);
        }
        if (i % 2 == 1) {
            Check.whenTrue(m);
        }
        return i < 2 ? m : Check.with(m, 0, 200);
    }

    /** "to put one of a size into a register makes the bits above it 0." */
    private static void sizesInRegisters() {
        gives(29, -1, -1, 0xff);
        gives(30, -1, -1, 0xffff);
        gives(31, -1, -1, LOW);
        gives(32, -1, -1, -1);
        gives(29, -1, 0x80, 0x80);
        gives(30, -1, 0x8000, 0x8000);
        gives(31, -1, 0x80000000L, 0x80000000L);
        gives(12, -1, 0, LOW);
        gives(12 | H, -1, 0, -1);
    }

    /** "2: q is a signed byte; [...] IP is NEXT + 2 * q." */
    private static void shortJumps() {
        for (int q = 0; q < 256; q++) {
            NaturalMachine m = Check.wide(100, Check.code(2, q));
            CHECK.steps("short jump", m, 2);
            CHECK.due("short jump of " + q, m.ip(), 102 + 2 * (q < 128 ? q : q - 256));
        }
    }

    /** "The BASE is R(A), but 0 if A is 0." */
    private static void bases() {
        for (int kind = 1; kind <= 3; kind += 2) {
            for (int a = 0; a < 8; a++) {
                NaturalMachine m = Check.wide(100, Check.code(kind | T, a).i32(7));
                for (int r = 1; r < 8; r++) {
                    m.setRegister(r, 1000 * r);
                }
                CHECK.steps("base", m, kind);
                CHECK.due("base of " + a, m.ip(), 1000 * a + 7);
                m = Check.wide(100, Check.code(kind | T, AT_A | a).i32(8));
                m.store(8, 77, 8);
                m.store(16, 78, 8);
                for (int r = 1; r < 8; r++) {
                    m.setRegister(r, 8);
                }
                CHECK.steps("base of a pointer", m, kind);
                CHECK.due("base of a pointer of " + a, m.ip(), a == 0 ? 77 : 78);
            }
        }
    }

    /** "With @A the target is the pointer (P bytes, the bits above 0) at base + the index's value" */
    private static void targetsAtIndexes() {
        for (int kind = 1; kind <= 3; kind += 2) {
            for (int n = 32; n <= 64; n += 32) {
                // u = 1, c = 2, so that the value is P + 2, or less than 0 by so much.
                long v = 1L << n - 4 | 2L << n / 8 | 1;
                int o = kind | T | (n == 64 ? H : 0);
                for (int wide = 0; wide < 2; wide++) {
                    Check.Code up = Check.code(o, AT_A | 3).put(v, n / 8);
                    Check.Code down = Check.code(o, AT_A | 3).put(v | 1L << n - 1, n / 8);
                    int far = wide == 1 ? 10 : 6;
                    targetAt(up.into(new NaturalMachine(wide), 0), kind, 100 + far);
                    targetAt(down.into(new NaturalMachine(wide), 0), kind, 100 - far);
                }
            }
        }
    }

    private static void targetAt(NaturalMachine m, int kind, int address) {
        m.setRegister(3, 100);
        m.store(90, -1, 8);
        m.store(98, -1, 8);
        m.store(106, -1, 8);
        m.store(114, -1, 8);
        m.store(address, 0x1234, 8);
        CHECK.steps("target at an index", m, kind);
        CHECK.due("target at " + address, m.ip(), 0x1234);
    }

    /** "All wraps": a target is a number of 64 bits. */
    private static void targetsThatWrap() {
        NaturalMachine m = Check.with(Check.wide(0, Check.code(1 | T, 1).i32(1)), 1, Long.MAX_VALUE);
        CHECK.steps("the greatest + 1", m, 1);
        CHECK.due("the greatest + 1", m.ip(), Long.MIN_VALUE);
        m = Check.with(Check.narrow(0, Check.code(1, 16 | 1)), 1, -2);
        CHECK.steps("-2 + NEXT", m, 1);
        CHECK.due("-2 + NEXT", m.ip(), 0);
        m = Check.with(Check.narrow(0, Check.code(1, 1)), 1, LOW + 9);
        CHECK.steps("more than a pointer has", m, 1);
        CHECK.due("more than a pointer has", m.ip(), LOW + 9);
    }

    /** "R(B) + the immediate": of 64 bits, of which the size counts. */
    private static void secondsThatWrap() {
        gives("the greatest + 1", Check.wide(0, Check.code(12 | H | T, Check.ab(1, 2)).i16(1)), 0,
                Long.MAX_VALUE, Long.MIN_VALUE);
        gives("of size 4", Check.wide(0, Check.code(12 | T, Check.ab(1, 2)).i16(1)), 0, LOW, 0);
        gives("-1 + 1", Check.wide(0, Check.code(24 | H | T, Check.ab(1, 2)).i16(1)), 5, -1, 5);
    }

    /** "The size is 4, or 8 with H, and only so much of both counts." */
    private static void onlySoMuchCounts() {
        long[] above = {0, 1L << 32, -1L << 32, 1L << 63};
        for (long x : above) {
            for (long y : above) {
                for (int kind = 5; kind <= 9; kind++) {
                    condition(kind, x | 7, y | 7, true);
                    condition(kind | H, x | 7, y | 7, so(kind, x, y));
                }
            }
        }
    }

    private static boolean so(int kind, long x, long y) {
        long bias = Long.MIN_VALUE;
        boolean[] all = {x == y, x <= y, x >= y, x + bias <= y + bias, x + bias >= y + bias};
        return all[kind - 5];
    }

    /** "5 equal, 6 at most, 7 at least, 8 at most, 9 at least, 6 and 7 signed, 8 and 9 unsigned" */
    private static void orders() {
        long[] edges = {0, 1, Integer.MAX_VALUE - 1, Integer.MAX_VALUE, Integer.MIN_VALUE, Integer.MIN_VALUE + 1,
            -2, -1};
        for (int i = 0; i < edges.length; i++) {
            for (int j = 0; j < edges.length; j++) {
                for (int kind = 5; kind <= 9; kind++) {
                    // In this row the numbers rise as unsigned ones.
                    boolean signed = so(kind, edges[i], edges[j]);
                    boolean unsigned = kind == 8 ? i <= j : i >= j;
                    condition(kind, edges[i], edges[j], kind < 8 ? signed : unsigned);
                    condition(kind | H, edges[i] << 32, edges[j] << 32, kind < 8 ? signed : unsigned);
                }
            }
        }
    }

    private static void condition(int o, long first, long second, boolean so) {
        String what = "o " + o + " of " + first + " and " + second;
        NaturalMachine m = Check.wide(0, Check.code(o, Check.ab(1, 2)));
        if (!so) {
            Check.whenTrue(m);
        }
        m.setRegister(1, first);
        m.setRegister(2, second);
        CHECK.steps(what, m, o % 64);
        CHECK.due(what, m.condition(), so);
    }

    /** "All wraps" */
    private static void allWraps() {
        long top = 0x80000000L;
        gives(10, 9, 0, LOW);
        gives(10 | H, 9, -1, 0);
        gives(11, 9, top, top);
        gives(11, 9, 0, 0);
        gives(11 | H, 9, Long.MIN_VALUE, Long.MIN_VALUE);
        gives(12, 0x7fffffff, 1, top);
        gives(12, LOW, 1, 0);
        gives(12 | H, LOW, 1, 1L << 32);
        gives(12 | H, Long.MAX_VALUE, 1, Long.MIN_VALUE);
        gives(12 | H, -1, 1, 0);
        gives(13, 0, 1, LOW);
        gives(13, top, 1, 0x7fffffff);
        gives(13 | H, 0, 1, -1);
        gives(13 | H, Long.MIN_VALUE, 1, Long.MAX_VALUE);
        for (int kind = 14; kind <= 15; kind++) {
            gives(kind, top, 2, 0);
            gives(kind, LOW, LOW, 1);
            gives(kind, top, LOW, top);
            gives(kind | H, LOW, LOW, 0xfffffffe00000001L);
            gives(kind | H, Long.MIN_VALUE, 2, 0);
            gives(kind | H, Long.MIN_VALUE, -1, Long.MIN_VALUE);
        }
        gives(16, top, LOW, top);
        gives(16 | H, Long.MIN_VALUE, -1, Long.MIN_VALUE);
        gives(16 | H, top, -1, -top);
        gives(18, top, LOW, 0);
        gives(18 | H, Long.MIN_VALUE, -1, 0);
    }

    /** "quotients are rounded towards 0, and rests are what is left of the first then" */
    private static void rounding() {
        long[][] rows = {{7, 2, 3, 1}, {-7, 2, -3, -1}, {7, -2, -3, 1}, {-7, -2, 3, -1}, {1, 2, 0, 1},
            {-1, 2, 0, -1}, {0, -5, 0, 0}, {6, -3, -2, 0}};
        for (long[] row : rows) {
            gives(16, row[0], row[1], row[2] & LOW);
            gives(16 | H, row[0], row[1], row[2]);
            gives(18, row[0], row[1], row[3] & LOW);
            gives(18 | H, row[0], row[1], row[3]);
        }
        gives(17, -7, 2, 0x7ffffffc);
        gives(17 | H, -7, 2, 0x7ffffffffffffffcL);
        gives(17, 7, -2, 0);
        gives(17, -2, -2, 1);
        gives(17 | H, -2, -1, 0);
        gives(17 | H, -1, Long.MIN_VALUE, 1);
        gives(19, -7, 2, 1);
        gives(19 | H, -7, 10, 9);
        gives(19, 7, -2, 7);
        gives(19, -7, 7, 4);
        gives(19, -1, -2, 1);
        gives(19 | H, -2, -1, -2);
        gives(19 | H, -1, Long.MIN_VALUE, Long.MAX_VALUE);
    }

    /** "Shifts are by the second modulo 32 (64 with H)." */
    private static void shifts() {
        long[] by = {0, 1, 31, 32, 33, 63, 64, 65, -1, -32, -33, 1L << 32, Long.MIN_VALUE, Long.MAX_VALUE};
        long first = 0x89abcdef81234567L;
        for (long second : by) {
            int few = (int) Math.floorMod(second, 32L);
            int many = (int) Math.floorMod(second, 64L);
            gives(23, first, second, (int) first << few & LOW);
            gives(24, first, second, (first & LOW) >>> few);
            gives(25, first, second, (int) first >> few & LOW);
            gives(23 | H, first, second, first << many);
            gives(24 | H, first, second, first >>> many);
            gives(25 | H, first, second, first >> many);
        }
        gives(25, 0x7fffffff, 31, 0);
        gives(25, 0x80000000L, 31, LOW);
        gives(25 | H, 0x80000000L, 31, 1);
    }

    /** "26, 27, 28 the low 1, 2, 4 bytes of the second as a signed number." */
    private static void lowBytes() {
        for (int i = 0; i < 3; i++) {
            long half = 1L << (8 << i) - 1;
            long[] numbers = {0, 1, half - 1, half, half + 1, 2 * half - 1, 2 * half, 3 * half, -1};
            long[] due = {0, 1, half - 1, -half, 1 - half, -1, 0, -half, -1};
            for (int j = 0; j < numbers.length; j++) {
                gives(26 + i, -1, numbers[j], due[j] & LOW);
                gives(26 + i | H, -1, numbers[j], due[j]);
            }
        }
    }

    /** "41: the condition is whether R(B) is odd" */
    private static void odd() {
        long[] values = {0, 1, 2, -1, -2, Long.MAX_VALUE, Long.MIN_VALUE, 1L << 32, (1L << 32) + 1};
        boolean[] due = {false, true, false, true, false, true, false, false, true};
        for (int i = 0; i < values.length; i++) {
            for (int b = 1; b < 8; b++) {
                NaturalMachine m = Check.wide(0, Check.code(41, Check.ab(0, b)));
                if (!due[i]) {
                    Check.whenTrue(m);
                }
                m.setRegister(b, values[i]);
                CHECK.steps("odd", m, 41);
                CHECK.due("whether " + values[i] + " is odd", m.condition(), due[i]);
            }
        }
    }

    /** "43, 53 PUSH: [...] not @A: R(A) + the immediate": of the sum the size is pushed. */
    private static void pushesThatWrap() {
        pushes(1, Check.code(43 | T, 1).i16(1), LOW, 4, 0);
        pushes(1, Check.code(43 | T, 1).i16(-1), 0, 4, LOW);
        pushes(1, Check.code(43 | H | T, 1).i16(1), -1, 8, 0);
        pushes(1, Check.code(43 | H | T, 1).i16(-1), Long.MIN_VALUE, 8, Long.MAX_VALUE);
        pushes(0, Check.code(53 | T, 1).i16(1), LOW, 4, 0);
        pushes(1, Check.code(53 | T, 1).i16(1), LOW, 8, 1L << 32);
    }

    private static void pushes(int wide, Check.Code code, long r1, int size, long due) {
        NaturalMachine m = Check.with(code.into(new NaturalMachine(wide), 0), 1, r1);
        m.store(496, -1, 8);
        CHECK.steps("push", m, m.peek(0) % 64);
        CHECK.due("push: R0", m.register(0), 512 - size);
        CHECK.due("push: number", Check.number(m, 512 - size, size), due);
        CHECK.due("push: R1 stays", m.register(1), r1);
        CHECK.due("push: below", m.peek(503), 255);
    }

    /** "44, 54 POP likewise: what is popped, as a signed number, + the immediate becomes R(A) (all 64 bits" */
    private static void popsAreSigned() {
        long top = 0x80000000L;
        pops(1, Check.code(44, 1), 0x7fffffff, 4, 0x7fffffff);
        pops(1, Check.code(44, 1), top, 4, -top);
        pops(1, Check.code(44, 1), LOW, 4, -1);
        pops(1, Check.code(44 | T, 1).i16(1), 0x7fffffff, 4, top);
        pops(1, Check.code(44 | T, 1).i16(-1), top, 4, -top - 1);
        pops(1, Check.code(44 | T, 1).i16(0x7fff), LOW, 4, 0x7ffe);
        pops(1, Check.code(44 | H, 1), top, 8, top);
        pops(1, Check.code(44 | H | T, 1).i16(1), Long.MAX_VALUE, 8, Long.MIN_VALUE);
        pops(0, Check.code(54 | T, 1).i16(-0x8000), top, 4, -top - 0x8000);
        pops(1, Check.code(54 | T, 1).i16(-1), top, 8, top - 1);
    }

    private static void pops(int wide, Check.Code code, long number, int size, long due) {
        NaturalMachine m = Check.with(code.into(new NaturalMachine(wide), 0), 0, 100);
        m.store(100, number, 8);
        CHECK.steps("pop", m, m.peek(0) % 64);
        CHECK.due("pop of " + number, m.register(1), due);
        CHECK.due("pop: R0", m.register(0), 100 + size);
    }

    /** "(all 64 bits; R0 too, instead of what popping makes of it)", "(R(A) as it was before)" */
    private static void stackOfR0() {
        int[] kinds = {44, 44 | H, 54};
        for (int o : kinds) {
            NaturalMachine m = Check.with(Check.narrow(0, Check.code(o | T, 0).i16(5)), 0, 100);
            m.store(100, 300, 8);
            CHECK.steps("pop into R0", m, o % 64);
            CHECK.due("pop into R0", m.register(0), 305);
            int size = o == (44 | H) ? 8 : 4;
            m = Check.with(Check.narrow(0, Check.code(o | T, AT_A).i16(8)), 0, 100);
            m.store(100, -300, 8);
            CHECK.steps("pop to R0 + 8", m, o % 64);
            CHECK.due("pop to R0 + 8 as it was", Check.number(m, 108, 4), -300 & LOW);
            CHECK.due("pop to R0 + 8: R0", m.register(0), 100 + size);
        }
        NaturalMachine m = Check.wide(0, Check.code(43, 0));
        CHECK.steps("push of R0", m, 43);
        CHECK.due("push of R0", Check.number(m, 508, 4), 512);
        m = Check.with(Check.wide(0, Check.code(43, AT_A)), 0, 100);
        m.store(96, 0x2222222211111111L, 8);
        m.store(100, 9, 4);
        CHECK.steps("push of what lies at R0", m, 43);
        CHECK.due("push of what lies at R0", Check.number(m, 96, 4), 9);
        CHECK.due("push of what lies at R0: R0", m.register(0), 96);
    }

    /** "if R0 is 512 the machine is DONE [...] Else a pointer is popped": a call and its return, and the end. */
    private static void fullAndEmpty() {
        for (int wide = 0; wide < 2; wide++) {
            NaturalMachine m = Check.code(3 | T, 0).i32(40).then(4, 0).into(new NaturalMachine(wide), 0);
            m.store(40, 4, 2);
            CHECK.steps("call", m, 3);
            CHECK.due("call: ip", m.ip(), 40);
            CHECK.steps("return", m, 4);
            CHECK.due("return: ip", m.ip(), 6);
            CHECK.due("return: R0", m.register(0), 512);
            CHECK.due("return: state", m.state(), NaturalMachine.RUNNING);
            CHECK.steps("the end", m, 4);
            CHECK.due("the end: state", m.state(), NaturalMachine.DONE);
            CHECK.due("the end: ip", m.ip(), 8);
            int p = wide == 1 ? 8 : 4;
            // A call to itself, with room for three pointers.
            m = Check.code(3 | T, 0).i32(100).into(new NaturalMachine(wide), 100);
            m.setRegister(0, 3 * p);
            CHECK.due("calls until the stack is full", m.run(200), 3);
            CHECK.due("calls until the stack is full: R0", m.register(0), 0);
            CHECK.due("calls until the stack is full: fault", m.fault(), NaturalMachine.ADDRESS);
            CHECK.due("calls until the stack is full: the last NEXT", Check.number(m, 0, p), 106);
        }
    }

    /** "57 (likewise): NEXT + the immediate, both with the size 8, or P with @A" */
    private static void relativeThatWraps() {
        gives("the greatest", Check.narrow(0, Check.code(57 | H | T, 1).i64(Long.MAX_VALUE)), 0, 0,
                Long.MIN_VALUE + 9);
        gives("down to 0", Check.narrow(0, Check.code(57 | H, 1).i16(-4)), 0, 0, 0);
        gives("below 0, all 64 bits", Check.narrow(0, Check.code(57 | H, 1).i16(-5)), 0, 0, -1);
        NaturalMachine m = Check.with(Check.narrow(0, Check.code(57 | H, AT_A | 1).i16(-5)), 1, 100);
        CHECK.steps("below 0, into memory", m, 57);
        CHECK.due("below 0, P = 4", Check.number(m, 100, 8), LOW);
        m = Check.with(Check.wide(0, Check.code(57 | H, AT_A | 1).i16(-5)), 1, 100);
        CHECK.steps("below 0, into memory", m, 57);
        CHECK.due("below 0, P = 8", Check.number(m, 100, 8), -1);
    }

    /** "offsets may be told in part by how many pointers they go over": one code, two sizes of a pointer. */
    private static void indexesAsPointers() {
        // Two pointers and 3 bytes behind R2, read into R1: an index of 16 bits with u = 2, c = 3, width 2.
        Check.Code code = Check.code(29 | H, AT_B | Check.ab(1, 2)).i16(0x1000 | 3 << 2 | 2);
        NaturalMachine wide = Check.wide(0, code);
        NaturalMachine narrow = Check.narrow(0, code);
        wide.store(219, 81, 1);
        narrow.store(211, 41, 1);
        gives("P = 8", wide, 0, 200, 81);
        gives("P = 4", narrow, 0, 200, 41);
    }
}
