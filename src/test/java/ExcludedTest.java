/**
 * Promises 7 and 10: of all pairs of first bytes, those that are excluded, or of no kind, are the fault
 * OPCODE, and no others are.
 */
public final class ExcludedTest {
    public static void main(String[] args) {
        Check check = new Check("ExcludedTest");
        for (int o = 0; o < 256; o++) {
            for (int q = 0; q < 256; q++) {
                look(check, o, q);
            }
        }
        check.end();
    }

    private static void look(Check check, int o, int q) {
        boolean excluded = Excluded.is(o, q);
        for (int wide = 0; wide < 2; wide++) {
            NaturalMachine m = new NaturalMachine(wide);
            // So that no other fault but BREAK is met: all numbers lie in the memory, and none is 0.
            for (int r = 0; r < 8; r++) {
                m.setRegister(r, 256);
            }
            Check.code(o, q).into(m, 0);
            String what = "o " + o + " q " + q;
            int done = m.run(1);
            int other = o % 64 == 0 ? NaturalMachine.BREAK : NaturalMachine.NO_FAULT;
            boolean divides = o % 64 >= 16 && o % 64 <= 19 && (q & 128) != 0;
            other = divides ? NaturalMachine.DIVIDE : other;
            int due = excluded ? NaturalMachine.OPCODE : other;
            check.due(what + ": fault", m.fault(), due);
            check.due(what + ": run(1)", done, due == NaturalMachine.NO_FAULT ? 1 : 0);
            if (excluded) {
                stays(check, what, m);
            }
        }
    }

    private static void stays(Check check, String what, NaturalMachine m) {
        check.due(what + ": state", m.state(), NaturalMachine.FAULTED);
        check.due(what + ": ip", m.ip(), 0);
        check.due(what + ": condition", m.condition(), false);
        for (int r = 0; r < 8; r++) {
            check.due(what + ": register", m.register(r), 256);
        }
    }
}
