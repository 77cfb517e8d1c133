/** What the tests share: counting wrong answers, writing byte code, and machines that hold it. */
final class Check {
    static final int H = 64, T = 128, AT_A = 8, AT_B = 128;

    interface Call {
        void make();
    }

    private final String title;
    private int asked = 0;
    private int wrong = 0;

    Check(String title) {
        this.title = title;
    }

    void due(String what, long got, long want) {
        asked++;
        if (got != want) {
            wrong++;
            if (wrong <= 50) {
                System.out.println(title + ": " + what + " answered " + got + ", due is " + want);
            }
        }
    }

    void due(String what, boolean got, boolean want) {
        due(what, got ? 1 : 0, want ? 1 : 0);
    }

    void due(String what, String got, String want) {
        asked++;
        if (!got.equals(want)) {
            wrong++;
            System.out.println(title + ": " + what + " answered " + got + ", due is " + want);
        }
    }

    /** What the call throws, by its full name, or "nothing". */
    static String thrown(Call call) {
        try {
            call.make();
            return "nothing";
        } catch (RuntimeException e) {
            return e.getClass().getName().replace("java.lang.", "");
        }
    }

    void throwing(String what, Call call, String want) {
        due(what + " throws", thrown(call), want);
    }

    /** One step that is due to do its instruction, of this kind. */
    void steps(String what, NaturalMachine m, int kind) {
        int got;
        try {
            got = m.step();
        } catch (RuntimeException e) {
            got = -1 - m.fault();
        }
        due(what + ": step() (or -1 - the fault)", got, kind);
    }

    /** One step that is due to meet this fault and to leave all else as it was. */
    void faults(String what, NaturalMachine m, int fault) {
        String before = all(m);
        throwing(what + ": step()", () -> m.step(), "UnsupportedOperationException");
        due(what + ": fault()", m.fault(), fault);
        due(what + ": state()", m.state(), NaturalMachine.FAULTED);
        due(what + ": all else", all(m), before);
    }

    /**
     * Registers, condition, IP, and the memory where the tests have code and numbers. Not all of the memory:
     * what an object answers behind its 512th call is free, and a test looks twice.
     */
    static String all(NaturalMachine m) {
        StringBuilder s = new StringBuilder();
        s.append("ip ").append(m.ip()).append(" condition ").append(m.condition());
        for (int r = 0; r < 8; r++) {
            s.append(" R").append(r).append(' ').append(m.register(r));
        }
        for (int address = 0; address < 512; address++) {
            if (isLookedAt(address)) {
                s.append(' ').append(m.peek(address));
            }
        }
        return s.toString();
    }

    private static boolean isLookedAt(int address) {
        return address < 64 || address >= 92 && address < 124 || address >= 200 && address < 224
                || address >= 448;
    }

    static long number(NaturalMachine m, int address, int size) {
        long v = 0;
        for (int i = size - 1; i >= 0; i--) {
            v = v << 8 | m.peek(address + i);
        }
        return v;
    }

    void end() {
        System.out.println(title + ": " + asked + " answers looked at, " + wrong + " wrong");
        if (wrong != 0) {
            System.exit(1);
        }
    }

    static NaturalMachine with(NaturalMachine m, int r, long v) {
        m.setRegister(r, v);
        return m;
    }

    static NaturalMachine with(NaturalMachine m, int r, long v, int other, long w) {
        return with(with(m, r, v), other, w);
    }

    /** Makes the condition true, by R7, and starts again where the code is. */
    static NaturalMachine whenTrue(NaturalMachine m) {
        int back = (int) m.ip();
        m.setRegister(7, 1);
        m.store(500, 41 | ab(0, 7) << 8, 2);
        m.start(500);
        m.step();
        m.start(back);
        return m;
    }

    /** A machine with P = 8 that has this code at an address and is RUNNING from there on. */
    static NaturalMachine wide(int address, Code code) {
        return code.into(new NaturalMachine(1), address);
    }

    /** The same with P = 4. */
    static NaturalMachine narrow(int address, Code code) {
        return code.into(new NaturalMachine(0), address);
    }

    static Code code(int kindAndFlags, int q) {
        return new Code().then(kindAndFlags, q);
    }

    /** q with the registers A and B. */
    static int ab(int a, int b) {
        return a | b << 4;
    }

    /** Byte code, written one after the other. */
    static final class Code {
        private final byte[] bytes = new byte[512];
        private int length = 0;

        Code put(long v, int size) {
            for (int i = 0; i < size; i++) {
                bytes[length++] = (byte) (v >> 8 * i);
            }
            return this;
        }

        Code then(int kindAndFlags, int q) {
            return put(kindAndFlags, 1).put(q, 1);
        }

        Code i16(long v) {
            return put(v, 2);
        }

        Code i32(long v) {
            return put(v, 4);
        }

        Code i64(long v) {
            return put(v, 8);
        }

        NaturalMachine into(NaturalMachine m, int address) {
            for (int i = 0; i < length; i++) {
                m.store(address + i, bytes[i], 1);
            }
            m.start(address);
            return m;
        }
    }
}
