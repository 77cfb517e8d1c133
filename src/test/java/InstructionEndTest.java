/**
 * Terms, "to read an instruction's bytes" where there are none is the fault ADDRESS; "Where nothing else is
 * said the IP is NEXT afterwards": every pair of first bytes that is not excluded, written so that the
 * instruction ends with the memory, and so that one or more of its last bytes would lie behind it.
 */
public final class InstructionEndTest {
    private static final int H = Check.H, T = Check.T;
    private static final Check CHECK = new Check("InstructionEndTest");

    public static void main(String[] args) {
        for (int o = 0; o < 256; o++) {
            for (int q = 0; q < 256; q++) {
                if (!Excluded.is(o, q)) {
                    look(0, o, q);
                    look(1, o, q);
                }
            }
        }
        CHECK.end();
    }

    private static void look(int wide, int o, int q) {
        int length = 2 + following(o, q);
        int kind = o % 64;
        String what = "o " + o + " q " + q + " of " + length + " bytes";
        NaturalMachine whole = machine(wide, o, q, 512 - length);
        CHECK.due(what + ": run(1)", whole.run(1), kind == 0 ? 0 : 1);
        CHECK.due(what + ": fault", whole.fault(), kind == 0 ? NaturalMachine.BREAK : NaturalMachine.NO_FAULT);
        if (kind > 4) {
            CHECK.due(what + ": ip", whole.ip(), 512);
        }
        for (int missing = 1; missing < length; missing++) {
            NaturalMachine cut = machine(wide, o, q, 512 - length + missing);
            CHECK.due(what + " without " + missing + ": run(1)", cut.run(1), 0);
            CHECK.due(what + " without " + missing + ": fault", cut.fault(), NaturalMachine.ADDRESS);
            CHECK.due(what + " without " + missing + ": ip", cut.ip(), 512 - length + missing);
        }
    }

    /** All registers lead to a number that is not 0, so that no other fault is met; what follows q is 0. */
    private static NaturalMachine machine(int wide, int o, int q, int address) {
        NaturalMachine m = new NaturalMachine(wide);
        for (int r = 0; r < 8; r++) {
            m.setRegister(r, 256);
        }
        m.store(256, 0x0101010101010101L, 8);
        m.store(address, o, 1);
        m.store(address + 1, q, 1);
        m.start(address);
        return m;
    }

    /** How many bytes of indexes and immediates follow. */
    private static int following(int o, int q) {
        int kind = o % 64;
        boolean h = (o & H) != 0;
        boolean t = (o & T) != 0;
        if (kind == 1 || kind == 3) {
            return !t ? 0 : h ? 8 : 4;
        }
        if (kind >= 5 && kind <= 28 || kind == 43 || kind == 44 || kind == 53 || kind == 54) {
            return t ? 2 : 0;
        }
        if (kind >= 45 && kind <= 49) {
            return (t ? 4 : 2) + ((q & 16) != 0 ? 2 : 0);
        }
        if (kind >= 55 && kind <= 57) {
            return (h && t ? 8 : h ? 2 : 4) + ((q & 64) != 0 ? 2 : 0);
        }
        return ((t ? 1 : 0) + (h ? 1 : 0)) * indexOfMove(kind);
    }

    private static int indexOfMove(int kind) {
        if (kind >= 29 && kind <= 32 || kind == 50) {
            return 2;
        }
        return kind >= 33 && kind <= 36 || kind == 51 ? 4 : kind == 40 ? 8 : 0;
    }
}
