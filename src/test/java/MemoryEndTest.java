/**
 * Terms, "addresses 0 .. 511" and "to read or write a byte where there is none is the fault ADDRESS": every
 * kind that reads or writes the memory, at its first and last addresses, and next to them.
 */
public final class MemoryEndTest {
    private static final Check CHECK = new Check("MemoryEndTest");
    private static final int H = Check.H, T = Check.T, AT_A = Check.AT_A, AT_B = Check.AT_B;
    private static final int ADDRESS = NaturalMachine.ADDRESS;
    private static final int CODE = 200;
    private static final long[] FAR = {-9, 513, 1L << 32, (1L << 32) + 8, Long.MAX_VALUE, Long.MIN_VALUE};

    public static void main(String[] args) {
        for (int wide = 0; wide < 2; wide++) {
            jumps(wide);
            compares(wide);
            results(wide);
            moves(wide);
            immediates(wide);
            stack(wide);
            calls(wide);
        }
        addressesThatWrap();
        CHECK.end();
    }

    private static NaturalMachine machine(int wide, Check.Code code, int r, long address) {
        NaturalMachine m = new NaturalMachine(wide);
        // Not 0, so that a number there can divide.
        m.store(0, 0x0101010101010101L, 8);
        m.store(504, 0x0101010101010101L, 8);
        m.setRegister(2, 1);
        m.setRegister(r, address);
        return code.into(m, CODE);
    }

    /** A number of a size at an address that R1 has. */
    private static void at(int wide, Check.Code code, int kind, int size) {
        ends(wide, code, kind, 1, 0, size);
    }

    /** A number of a size at an address that is that of a register less some bytes. */
    private static void ends(int wide, Check.Code code, int kind, int r, int less, int size) {
        String what = "kind " + kind + " of " + size + " bytes, P " + (wide == 1 ? 8 : 4) + ", at ";
        long[] inside = {0, 1, 511 - size, 512 - size};
        for (long address : inside) {
            CHECK.steps(what + address, machine(wide, code, r, address + less), kind);
        }
        long[] outside = {-1, -size, 513 - size, 511 + (size == 1 ? 1 : 0), 512};
        for (long address : outside) {
            CHECK.faults(what + address, machine(wide, code, r, address + less), ADDRESS);
        }
        for (long address : FAR) {
            CHECK.faults(what + address, machine(wide, code, r, address + less), ADDRESS);
        }
    }

    private static int p(int wide) {
        return wide == 1 ? 8 : 4;
    }

    private static void jumps(int wide) {
        at(wide, Check.code(1, AT_A | 1), 1, p(wide));
        at(wide, Check.code(1, AT_A | 16 | 1), 1, p(wide));
        at(wide, Check.code(3, AT_A | 1), 3, p(wide));
        at(wide, Check.code(1 | T, AT_A | 1).i32(0), 1, p(wide));
    }

    private static void compares(int wide) {
        for (int kind = 5; kind <= 9; kind++) {
            at(wide, Check.code(kind, AT_B | Check.ab(3, 1)), kind, 4);
            at(wide, Check.code(kind | H, AT_B | Check.ab(3, 1)), kind, 8);
            at(wide, Check.code(kind + 40, AT_A | 1).i16(1), kind + 40, 4);
            at(wide, Check.code(kind + 40 | H, AT_A | 1).i16(1), kind + 40, 8);
        }
    }

    private static void results(int wide) {
        for (int kind = 10; kind <= 28; kind++) {
            at(wide, Check.code(kind, AT_A | Check.ab(1, 2)), kind, 4);
            at(wide, Check.code(kind | H, AT_A | Check.ab(1, 2)), kind, 8);
            at(wide, Check.code(kind, AT_B | Check.ab(3, 1)), kind, 4);
            at(wide, Check.code(kind | H, AT_B | Check.ab(3, 1)), kind, 8);
        }
    }

    private static void moves(int wide) {
        int[] kinds = {29, 30, 31, 32, 33, 34, 35, 36, 40, 50, 51};
        int[] sizes = {1, 2, 4, 8, 1, 2, 4, 8, 8, p(wide), p(wide)};
        for (int i = 0; i < kinds.length; i++) {
            at(wide, Check.code(kinds[i], AT_A | Check.ab(1, 2)), kinds[i], sizes[i]);
            at(wide, Check.code(kinds[i], AT_B | Check.ab(3, 1)), kinds[i], sizes[i]);
        }
    }

    private static void immediates(int wide) {
        for (int size = 0; size < 4; size++) {
            at(wide, Check.code(55 | H, AT_A | Check.ab(1, size)).i16(1), 55, 1 << size);
        }
        at(wide, Check.code(56 | H, AT_A | 1).i16(1), 56, p(wide));
        at(wide, Check.code(57 | H, AT_A | 1).i16(1), 57, p(wide));
    }

    /** "TO PUSH a number of a size: R0 is less by the size, and the number lies at R0. TO POP: [...] at R0" */
    private static void stack(int wide) {
        int p = p(wide);
        ends(wide, Check.code(43, 2), 43, 0, 4, 4);
        ends(wide, Check.code(43 | H, 2), 43, 0, 8, 8);
        ends(wide, Check.code(53, 2), 53, 0, p, p);
        ends(wide, Check.code(44, 2), 44, 0, 0, 4);
        ends(wide, Check.code(44 | H, 2), 44, 0, 0, 8);
        ends(wide, Check.code(54, 2), 54, 0, 0, p);
        at(wide, Check.code(43, AT_A | 1), 43, 4);
        at(wide, Check.code(43 | H, AT_A | 1), 43, 8);
        at(wide, Check.code(53, AT_A | 1), 53, p);
        popsTo(wide, Check.code(44, AT_A | 1), 44, 4);
        popsTo(wide, Check.code(44 | H, AT_A | 1), 44, 8);
        popsTo(wide, Check.code(54, AT_A | 1), 54, p);
    }

    /** What is popped lies at 0, and R1 says where it goes. */
    private static void popsTo(int wide, Check.Code code, int kind, int size) {
        long[] inside = {0, 512 - size};
        for (long address : inside) {
            CHECK.steps("pop to " + address, Check.with(machine(wide, code, 1, address), 0, 0), kind);
        }
        long[] outside = {-1, 513 - size, 512, 1L << 32, Long.MIN_VALUE};
        for (long address : outside) {
            CHECK.faults("pop to " + address, Check.with(machine(wide, code, 1, address), 0, 0), ADDRESS);
        }
    }

    /** A call's push, and the pop of kind 4, but for R0 = 512, which is the end of all. */
    private static void calls(int wide) {
        int p = p(wide);
        ends(wide, Check.code(3, 2), 3, 0, p, p);
        long[] inside = {0, 1, 511 - p, 512 - p};
        for (long address : inside) {
            NaturalMachine m = machine(wide, Check.code(4, 0), 0, address);
            CHECK.steps("return at " + address, m, 4);
            CHECK.due("return at " + address + ": state", m.state(), NaturalMachine.RUNNING);
            CHECK.due("return at " + address + ": R0", m.register(0), address + p);
        }
        long[] outside = {-1, -p, 513 - p, 511, 513, 512 + (1L << 32), -512, Long.MAX_VALUE, Long.MIN_VALUE};
        for (long address : outside) {
            CHECK.faults("return at " + address, machine(wide, Check.code(4, 0), 0, address), ADDRESS);
        }
        NaturalMachine m = machine(wide, Check.code(4, 0), 0, 512);
        CHECK.steps("return at 512", m, 4);
        CHECK.due("return at 512: state", m.state(), NaturalMachine.DONE);
        CHECK.due("return at 512: R0", m.register(0), 512);
        CHECK.due("return at 512: ip", m.ip(), CODE + 2);
    }

    /** "An address is a number of 64 bits": it wraps there, and not before. */
    private static void addressesThatWrap() {
        // Indexes of 16 bits: 9, and -9.
        int nine = 9;
        int minusNine = 0x8009;
        NaturalMachine m = machine(1, Check.code(29 | H, AT_B | Check.ab(3, 1)).i16(nine), 1, -5);
        m.store(4, 77, 1);
        CHECK.steps("-5 + 9", m, 29);
        CHECK.due("-5 + 9", m.register(3), 77);
        m = machine(1, Check.code(29 | T, AT_A | Check.ab(1, 2)).i16(nine), 1, -9);
        CHECK.steps("-9 + 9", m, 29);
        CHECK.due("-9 + 9", m.peek(0), 1);
        m = machine(1, Check.code(29 | H, AT_B | Check.ab(3, 1)).i16(minusNine), 1, 520);
        m.store(511, 78, 1);
        CHECK.steps("520 - 9", m, 29);
        CHECK.due("520 - 9", m.register(3), 78);
        Check.Code up = Check.code(29 | H, AT_B | Check.ab(3, 1)).i16(nine);
        Check.Code down = Check.code(29 | H, AT_B | Check.ab(3, 1)).i16(minusNine);
        CHECK.faults("503 + 9", machine(1, up, 1, 503), ADDRESS);
        CHECK.faults("8 - 9", machine(1, down, 1, 8), ADDRESS);
        CHECK.faults("2 to the 32nd - 5 + 9", machine(1, up, 1, (1L << 32) - 5), ADDRESS);
        CHECK.faults("the greatest + 9", machine(1, up, 1, Long.MAX_VALUE), ADDRESS);
        CHECK.faults("the least - 9", machine(1, down, 1, Long.MIN_VALUE), ADDRESS);
    }
}
