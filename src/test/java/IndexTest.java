import java.math.BigInteger;

/**
 * Promise 13: index, and what Terms say of an index. Each method looks at the words of the document that
 * stand above it.
 */
public final class IndexTest {
    private static final Check CHECK = new Check("IndexTest");
    private static final String REFUSED = "IllegalArgumentException";
    private static final int[] SIZES = {16, 32, 64};

    public static void main(String[] args) {
        parts();
        noWidth();
        greatestWidths();
        signOfNothing();
        lowestBits();
        tooWide();
        otherBits();
        otherWhat();
        inEveryState();
        allOf16();
        headsOf32And64();
        CHECK.end();
    }

    /** "u (what 0), c (1), the value (2)": "its VALUE is c + u * P, negative if the sign is set." */
    private static void parts() {
        for (int n : SIZES) {
            // k = 1, so that the width is n / 8: u = 2, c = 5.
            long v = 1L << n - 4 | 5L << n / 8 | 2;
            long minus = v | 1L << n - 1;
            NaturalMachine wide = new NaturalMachine(1);
            NaturalMachine narrow = new NaturalMachine(0);
            CHECK.due("u of " + n, wide.index(v, n, 0), 2);
            CHECK.due("c of " + n, wide.index(v, n, 1), 5);
            CHECK.due("value of " + n + " with P = 8", wide.index(v, n, 2), 5 + 16);
            CHECK.due("value of " + n + " with P = 4", narrow.index(v, n, 2), 5 + 8);
            CHECK.due("u of " + n + " with the sign", wide.index(minus, n, 0), 2);
            CHECK.due("c of " + n + " with the sign", wide.index(minus, n, 1), 5);
            CHECK.due("value of " + n + " with the sign, P = 8", wide.index(minus, n, 2), -(5 + 16));
            CHECK.due("value of " + n + " with the sign, P = 4", narrow.index(minus, n, 2), -(5 + 8));
        }
    }

    /** A width of 0: all is c. */
    private static void noWidth() {
        for (int n : SIZES) {
            NaturalMachine m = new NaturalMachine(1);
            long all = (1L << n - 4) - 1;
            CHECK.due("u of " + n + ", width 0", m.index(all, n, 0), 0);
            CHECK.due("c of " + n + ", width 0", m.index(all, n, 1), all);
            CHECK.due("value of " + n + ", width 0", m.index(all, n, 2), all);
            CHECK.due("its negative", m.index(all | 1L << n - 1, n, 2), -all);
        }
    }

    /** The greatest widths that there are: 12 of 16 (no bit is left for c), 28 of 32 (none), 56 of 64 (four). */
    private static void greatestWidths() {
        long[] all = {0x6fff, 0x7fffffffL, 0x7fffffffffffffffL};
        long[] u = {0xfff, 0xfffffff, 0xffffffffffffffL};
        long[] c = {0, 0, 15};
        for (int i = 0; i < SIZES.length; i++) {
            int n = SIZES[i];
            long minus = all[i] | 1L << n - 1;
            NaturalMachine wide = new NaturalMachine(1);
            NaturalMachine narrow = new NaturalMachine(0);
            CHECK.due("u, greatest width of " + n, wide.index(all[i], n, 0), u[i]);
            CHECK.due("c, greatest width of " + n, wide.index(all[i], n, 1), c[i]);
            CHECK.due("value, greatest width of " + n, wide.index(all[i], n, 2), c[i] + 8 * u[i]);
            CHECK.due("its negative", wide.index(minus, n, 2), -(c[i] + 8 * u[i]));
            CHECK.due("its negative with P = 4", narrow.index(minus, n, 2), -(c[i] + 4 * u[i]));
        }
    }

    private static void signOfNothing() {
        for (int n : SIZES) {
            CHECK.due("0 with the sign of " + n, new NaturalMachine(1).index(1L << n - 1, n, 2), 0);
        }
    }

    /** "the lowest ones of v": those above do nothing. */
    private static void lowestBits() {
        for (int what = 0; what < 3; what++) {
            NaturalMachine m = new NaturalMachine(1);
            CHECK.due("above 16", m.index(-1L << 16 | 0x1016, 16, what), m.index(0x1016, 16, what));
            CHECK.due("above 32", m.index(-1L << 32 | 0x10000052, 32, what), m.index(0x10000052, 32, what));
            CHECK.due("above 16, k of 32", m.index(0x70000050L, 16, what), m.index(0x50, 16, what));
        }
    }

    /** "or its width is too great": 14 of 16, whatever is asked; none of 32 or 64 is. */
    private static void tooWide() {
        NaturalMachine m = new NaturalMachine(1);
        long[] wide = {0x7000, 0xf000, 0x7fff, 0xffff, -1, 0x7000 | 1L << 40};
        for (long v : wide) {
            for (int what = 0; what < 3; what++) {
                int asked = what;
                CHECK.throwing("index(" + v + ", 16, " + what + ")", () -> m.index(v, 16, asked), REFUSED);
            }
        }
        CHECK.throwing("width 12 of 16", () -> m.index(0x6fff, 16, 2), "nothing");
        CHECK.throwing("width 28 of 32", () -> m.index(0x70000000L, 32, 1), "nothing");
        CHECK.throwing("width 56 of 64", () -> m.index(0x7000000000000000L, 64, 1), "nothing");
    }

    /** "IllegalArgumentException when bits [...] is another" */
    private static void otherBits() {
        NaturalMachine m = new NaturalMachine(1);
        int[] bits = {0, 1, 4, 8, 15, 17, 24, 31, 33, 48, 63, 65, 128, -16, -32, -64, Integer.MIN_VALUE,
            Integer.MAX_VALUE};
        for (int b : bits) {
            for (int what = 0; what < 3; what++) {
                int asked = what;
                CHECK.throwing("index of " + b + " bits", () -> m.index(0, b, asked), REFUSED);
            }
        }
    }

    /** "or what is another" */
    private static void otherWhat() {
        NaturalMachine m = new NaturalMachine(1);
        int[] whats = {-1, 3, 4, 256, Integer.MIN_VALUE, Integer.MAX_VALUE};
        for (int what : whats) {
            for (int n : SIZES) {
                CHECK.throwing("index of " + n + ", what " + what, () -> m.index(0, n, what), REFUSED);
            }
        }
    }

    /** index only tells: it does the same in every state, answered or refused, and changes none. */
    private static void inEveryState() {
        NaturalMachine m = Check.wide(0, Check.code(42, 1).then(0, 0));
        String before = Check.all(m);
        CHECK.due("RUNNING", m.index(0x9005, 16, 2), -9);
        CHECK.throwing("RUNNING, refused", () -> m.index(0x7000, 16, 2), REFUSED);
        CHECK.due("RUNNING stays", m.state(), NaturalMachine.RUNNING);
        CHECK.due("no fault", m.fault(), NaturalMachine.NO_FAULT);
        CHECK.due("all stays", Check.all(m), before);
        m.run(2);
        CHECK.due("FAULTED", m.index(0x9005, 16, 2), -9);
        CHECK.throwing("FAULTED, refused", () -> m.index(0x7000, 16, 2), REFUSED);
        CHECK.due("the fault stays", m.fault(), NaturalMachine.BREAK);
    }

    private static void allOf16() {
        for (int v = 0; v < 0x10000; v++) {
            same(1, v, 16);
            same(0, v, 16);
        }
    }

    private static void headsOf32And64() {
        long[] bodies = {0, 1, -1, 0x123456789abcdefL, 0x0aaaaaaaaaaaaaaaL, 0x0555555555555555L, 0xfffffffL};
        for (long body : bodies) {
            for (long head = 0; head < 16; head++) {
                long v32 = body & 0x0fffffffL | head << 28 | body << 32;
                long v64 = body & 0x0fffffffffffffffL | head << 60;
                for (int wide = 0; wide < 2; wide++) {
                    same(wide, v32, 32);
                    same(wide, v64, 64);
                }
            }
        }
    }

    /** The same as by whole numbers without a bound. */
    private static void same(int wide, long v, int bits) {
        NaturalMachine m = new NaturalMachine(wide);
        BigInteger pointer = BigInteger.valueOf(wide == 1 ? 8 : 4);
        BigInteger whole = BigInteger.valueOf(v);
        int k = 0;
        for (int i = 0; i < 3; i++) {
            k += whole.testBit(bits - 4 + i) ? 1 << i : 0;
        }
        int width = k * bits / 8;
        String name = "index(" + v + ", " + bits + ")";
        if (width > bits - 4) {
            for (int what = 0; what < 3; what++) {
                int asked = what;
                CHECK.throwing(name, () -> m.index(v, bits, asked), REFUSED);
            }
            return;
        }
        BigInteger number = whole.mod(BigInteger.TWO.pow(bits - 4));
        BigInteger[] parts = number.divideAndRemainder(BigInteger.TWO.pow(width));
        BigInteger value = parts[0].add(parts[1].multiply(pointer));
        CHECK.due(name + " u", m.index(v, bits, 0), parts[1].longValueExact());
        CHECK.due(name + " c", m.index(v, bits, 1), parts[0].longValueExact());
        CHECK.due(name + " value", m.index(v, bits, 2),
                (whole.testBit(bits - 1) ? value.negate() : value).longValueExact());
    }
}
