import java.math.BigInteger;

/** Promise 13, and an index's value where an instruction uses it. */
public final class IndexTest {
    private static final Check CHECK = new Check("IndexTest");
    private static final String REFUSED = "IllegalArgumentException";

    public static void main(String[] args) {
        written();
        allOf16();
        widthsOf32And64();
        refused();
        CHECK.end();
    }

    private static void written() {
        NaturalMachine wide = new NaturalMachine(1);
        NaturalMachine narrow = new NaturalMachine(0);
        // Sign, k = 1: width 2, u = 2, c = 5.
        long v = 0x8000L | 0x1000 | 5 << 2 | 2;
        CHECK.due("u", wide.index(v, 16, 0), 2);
        CHECK.due("c", wide.index(v, 16, 1), 5);
        CHECK.due("value with P = 8", wide.index(v, 16, 2), -(5 + 16));
        CHECK.due("value with P = 4", narrow.index(v, 16, 2), -(5 + 8));
        CHECK.due("only the lowest bits count", wide.index(v | 0x7fffffffffff0000L, 16, 2), -21);
        CHECK.due("0 with the sign", wide.index(0x8000, 16, 2), 0);
        CHECK.due("width 12 of 16: all is u", wide.index(0x6fff, 16, 0), 0xfff);
        CHECK.due("width 12 of 16: c", wide.index(0x6fff, 16, 1), 0);
        CHECK.due("greatest c of 64", wide.index(0x0fffffffffffffffL, 64, 2), 0x0fffffffffffffffL);
        CHECK.due("its negative", wide.index(0x8fffffffffffffffL, 64, 2), -0x0fffffffffffffffL);
    }

    private static void allOf16() {
        NaturalMachine wide = new NaturalMachine(1);
        NaturalMachine narrow = new NaturalMachine(0);
        for (int v = 0; v < 0x10000; v++) {
            same(wide, 8, v, 16);
            same(narrow, 4, v, 16);
        }
    }

    private static void widthsOf32And64() {
        NaturalMachine wide = new NaturalMachine(1);
        NaturalMachine narrow = new NaturalMachine(0);
        long[] bodies = {0, 1, -1, 0x123456789abcdefL, 0x0aaaaaaaaaaaaaaaL, 0x0555555555555555L, 0xfffffffL};
        for (long body : bodies) {
            for (long head = 0; head < 16; head++) {
                long v32 = body & 0x0fffffffL | head << 28 | body << 32;
                long v64 = body & 0x0fffffffffffffffL | head << 60;
                same(wide, 8, v32, 32);
                same(narrow, 4, v32, 32);
                same(wide, 8, v64, 64);
                same(narrow, 4, v64, 64);
            }
        }
    }

    private static void same(NaturalMachine m, int pointer, long v, int bits) {
        BigInteger whole = BigInteger.valueOf(v);
        int k = 0;
        for (int i = 0; i < 3; i++) {
            k += whole.testBit(bits - 4 + i) ? 1 << i : 0;
        }
        int width = k * bits / 8;
        String name = "index(" + v + ", " + bits + ")";
        if (width > bits - 4) {
            for (int what = 0; what < 3; what++) {
                int asked = what;
                CHECK.throwing(name, () -> m.index(v, bits, asked), REFUSED);
            }
            return;
        }
        BigInteger number = whole.mod(BigInteger.TWO.pow(bits - 4));
        BigInteger[] parts = number.divideAndRemainder(BigInteger.TWO.pow(width));
        BigInteger value = parts[0].add(parts[1].multiply(BigInteger.valueOf(pointer)));
        CHECK.due(name + " u", m.index(v, bits, 0), parts[1].longValueExact());
        CHECK.due(name + " c", m.index(v, bits, 1), parts[0].longValueExact());
        CHECK.due(name + " value", m.index(v, bits, 2),
                (whole.testBit(bits - 1) ? value.negate() : value).longValueExact());
    }

    private static void refused() {
        NaturalMachine m = new NaturalMachine(1);
        int[] bits = {0, -16, 8, 15, 17, 31, 33, 48, 63, 65, 128, Integer.MIN_VALUE, Integer.MAX_VALUE};
        for (int b : bits) {
            CHECK.throwing("index of " + b + " bits", () -> m.index(0, b, 0), REFUSED);
        }
        int[] whats = {-1, 3, 4, Integer.MIN_VALUE, Integer.MAX_VALUE};
        for (int what : whats) {
            CHECK.throwing("index, what " + what, () -> m.index(0, 32, what), REFUSED);
        }
        CHECK.throwing("width 14 of 16", () -> m.index(0x7000, 16, 0), REFUSED);
        CHECK.throwing("width 14 of 16 with the sign", () -> m.index(0xf000, 16, 1), REFUSED);
        CHECK.throwing("width 28 of 32", () -> m.index(0x70000000L, 32, 1), "nothing");
        CHECK.throwing("width 56 of 64", () -> m.index(0x7000000000000000L, 64, 1), "nothing");
        CHECK.due("the state stays", m.state(), NaturalMachine.STOPPED);
    }
}
