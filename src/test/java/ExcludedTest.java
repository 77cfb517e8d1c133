/**
 * Promises 7 and 10: of all pairs of first bytes, those that are excluded, or of no kind, are the fault
 * OPCODE, and no others are. What is excluded is written here as a list of rules beside the kinds.
 */
public final class ExcludedTest {
    /** kind from, kind to, of o and q: these bits are to be looked at, and excluded when they are these. */
    private static final int[][] RULES = {
        {1, 1, 0xc0, 0x40, 0, 0}, {3, 3, 0xc0, 0x40, 0, 0},
        {3, 3, 0, 0, 0x80, 0x80}, {3, 3, 0, 0, 0x40, 0x40}, {3, 3, 0, 0, 0x20, 0x20},
        {5, 9, 0, 0, 0x08, 0x08},
        {29, 36, 0x80, 0x80, 0x08, 0}, {40, 40, 0x80, 0x80, 0x08, 0}, {50, 51, 0x80, 0x80, 0x08, 0},
        {37, 39, 0, 0, 0, 0}, {52, 52, 0, 0, 0, 0}, {58, 63, 0, 0, 0, 0},
        {41, 41, 0, 0, 0x08, 0x08}, {41, 41, 0, 0, 0x80, 0x80},
        {41, 41, 0, 0, 1, 1}, {41, 41, 0, 0, 2, 2}, {41, 41, 0, 0, 4, 4},
        {42, 42, 0, 0, 0x08, 0x08}, {42, 42, 0, 0, 0x80, 0x80},
        {42, 42, 0, 0, 0x20, 0x20}, {42, 42, 0, 0, 0x40, 0x40},
        {43, 44, 0, 0, 0x10, 0x10}, {43, 44, 0, 0, 0x20, 0x20}, {43, 44, 0, 0, 0x40, 0x40},
        {43, 44, 0, 0, 0x80, 0x80},
        {53, 54, 0, 0, 0x10, 0x10}, {53, 54, 0, 0, 0x20, 0x20}, {53, 54, 0, 0, 0x40, 0x40},
        {53, 54, 0, 0, 0x80, 0x80}, {53, 54, 0x40, 0x40, 0, 0},
        {45, 49, 0, 0, 0x18, 0x10}, {45, 49, 0, 0, 0x20, 0x20}, {45, 49, 0, 0, 0x40, 0x40},
        {45, 49, 0, 0, 0x80, 0x80},
        {55, 57, 0xc0, 0, 0, 0}, {55, 57, 0, 0, 0x48, 0x40}, {55, 57, 0, 0, 0x80, 0x80},
        {56, 57, 0, 0, 0x10, 0x10}, {56, 57, 0, 0, 0x20, 0x20}
    };

    public static void main(String[] args) {
        Check check = new Check("ExcludedTest");
        for (int o = 0; o < 256; o++) {
            for (int q = 0; q < 256; q++) {
                look(check, o, q);
            }
        }
        check.end();
    }

    private static void look(Check check, int o, int q) {
        boolean excluded = isExcluded(o, q);
        for (int wide = 0; wide < 2; wide++) {
            NaturalMachine m = new NaturalMachine(wide);
            // So that no other fault but BREAK is met: all numbers lie in the memory, and none is 0.
            for (int r = 0; r < 8; r++) {
                m.setRegister(r, 256);
            }
            Check.code(o, q).into(m, 0);
            String what = "o " + o + " q " + q;
            int done = m.run(1);
            int other = o % 64 == 0 ? NaturalMachine.BREAK : NaturalMachine.NO_FAULT;
            boolean divides = o % 64 >= 16 && o % 64 <= 19 && (q & 128) != 0;
            other = divides ? NaturalMachine.DIVIDE : other;
            int due = excluded ? NaturalMachine.OPCODE : other;
            check.due(what + ": fault", m.fault(), due);
            check.due(what + ": run(1)", done, due == NaturalMachine.NO_FAULT ? 1 : 0);
        }
    }

    private static boolean isExcluded(int o, int q) {
        int kind = o % 64;
        for (int[] rule : RULES) {
            if (kind >= rule[0] && kind <= rule[1] && (o & rule[2]) == rule[3] && (q & rule[4]) == rule[5]) {
                return true;
            }
        }
        return false;
    }
}
