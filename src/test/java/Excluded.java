/** Which pairs of first bytes are excluded, or of no kind, as a list of rules. */
final class Excluded {
    /** kind from, kind to, of o and q: these bits are to be looked at, and excluded when they are these. */
    private static final int[][] RULES = {
        // 1, 3: "H without T is excluded"
        {1, 1, 0xc0, 0x40, 0, 0}, {3, 3, 0xc0, 0x40, 0, 0},
        // "CALL (128, 64 and 32 are excluded)"
        {3, 3, 0, 0, 0x80, 0x80}, {3, 3, 0, 0, 0x40, 0x40}, {3, 3, 0, 0, 0x20, 0x20},
        // 5 .. 9: "@A is excluded"
        {5, 9, 0, 0, 0x08, 0x08},
        // MOVE: "T: an index for the first follows (excluded if not @A)"
        {29, 36, 0x80, 0x80, 0x08, 0}, {40, 40, 0x80, 0x80, 0x08, 0}, {50, 51, 0x80, 0x80, 0x08, 0},
        // "A kind that is not told here"
        {37, 39, 0, 0, 0, 0}, {52, 52, 0, 0, 0, 0}, {58, 63, 0, 0, 0, 0},
        // 41: "@A, @B, and another A than 0 are excluded"
        {41, 41, 0, 0, 0x08, 0x08}, {41, 41, 0, 0, 0x80, 0x80},
        {41, 41, 0, 0, 1, 1}, {41, 41, 0, 0, 2, 2}, {41, 41, 0, 0, 4, 4},
        // 42: "another B, @A and @B are excluded"
        {42, 42, 0, 0, 0x20, 0x20}, {42, 42, 0, 0, 0x40, 0x40},
        {42, 42, 0, 0, 0x08, 0x08}, {42, 42, 0, 0, 0x80, 0x80},
        // 43, 44, 53, 54: "For both the bits 16 .. 128 of q are excluded"
        {43, 44, 0, 0, 0x10, 0x10}, {43, 44, 0, 0, 0x20, 0x20}, {43, 44, 0, 0, 0x40, 0x40},
        {43, 44, 0, 0, 0x80, 0x80},
        {53, 54, 0, 0, 0x10, 0x10}, {53, 54, 0, 0, 0x20, 0x20}, {53, 54, 0, 0, 0x40, 0x40},
        {53, 54, 0, 0, 0x80, 0x80},
        // "for 53 P (H excluded)", 54 "likewise"
        {53, 54, 0x40, 0x40, 0, 0},
        // 45 .. 49: "bit 16 of q (excluded without @A)", "32 .. 128 of q are excluded"
        {45, 49, 0, 0, 0x18, 0x10},
        {45, 49, 0, 0, 0x20, 0x20}, {45, 49, 0, 0, 0x40, 0x40}, {45, 49, 0, 0, 0x80, 0x80},
        // 55 .. 57: "neither is excluded", "bit 64 of q (excluded without @A)", "128 is excluded"
        {55, 57, 0xc0, 0, 0, 0}, {55, 57, 0, 0, 0x48, 0x40}, {55, 57, 0, 0, 0x80, 0x80},
        // "56 (q / 16 modulo 4 being 0)", "57 (likewise)"
        {56, 57, 0, 0, 0x10, 0x10}, {56, 57, 0, 0, 0x20, 0x20}
    };

    private Excluded() {
    }

    static boolean is(int o, int q) {
        int kind = o % 64;
        for (int[] rule : RULES) {
            if (kind >= rule[0] && kind <= rule[1] && (o & rule[2]) == rule[3] && (q & rule[4]) == rule[5]) {
                return true;
            }
        }
        return false;
    }
}
