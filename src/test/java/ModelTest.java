import java.math.BigInteger;

/**
 * All kinds against a second machine, which reads the document's table in another way: it works on a copy
 * of the whole machine, throws at the first fault, and reckons with whole numbers without a bound. The
 * programs are made up by a fixed row of numbers, so that every run of this test is the same.
 */
public final class ModelTest {
    private static final int MACHINES = 80000;
    /** So few, and of the memory so little is looked at, that no object has more than 512 calls. */
    private static final int STEPS = 8;
    private static final int LOOKED_AT = 256;

    private static long seed = 20261115;

    public static void main(String[] args) {
        Check check = new Check("ModelTest");
        int[] met = new int[6];
        int[] done = new int[64];
        for (int i = 0; i < MACHINES; i++) {
            compare(check, i, met, done);
        }
        for (int fault = 1; fault < 6; fault++) {
            check.due("fault " + fault + " was met often", met[fault] > 200, true);
        }
        for (int kind = 1; kind < 58; kind++) {
            boolean told = kind < 37 || kind > 39 && kind != 52;
            check.due("kind " + kind + " was done often", done[kind] > 200, told);
        }
        check.end();
    }

    private static void compare(Check check, int number, int[] met, int[] done) {
        int wide = number % 2;
        NaturalMachine m = new NaturalMachine(wide);
        Model model = new Model(wide == 1 ? 8 : 4);
        fillMemory(m, model);
        for (int r = 0; r < 8; r++) {
            long v = value();
            m.setRegister(r, v);
            model.registers[r] = v;
        }
        start(m, model);
        for (int i = 0; i < STEPS; i++) {
            if (model.fault != 0 || model.done) {
                start(m, model);
            }
            writeInstruction(m, model);
            String what = "machine " + number + " step " + i;
            int kind = stepOf(m);
            int due = model.step();
            check.due(what, kind, due);
            same(check, what, m, model);
            met[model.fault]++;
            if (due >= 0) {
                done[due]++;
            }
        }
        sameMemory(check, number, m, model);
    }

    private static void fillMemory(NaturalMachine m, Model model) {
        for (int address = 0; address < 512; address += 8) {
            long v = 0;
            for (int i = 0; i < 8; i++) {
                int b = next(3) == 0 ? next(256) : next(4) == 0 ? 255 : next(3);
                model.memory[address + i] = b;
                v |= (long) b << 8 * i;
            }
            m.store(address, v, 8);
        }
    }

    private static void start(NaturalMachine m, Model model) {
        int from = next(8) == 0 ? 495 + next(17) : next(512);
        m.start(from);
        model.ip = from;
        model.fault = 0;
        model.done = false;
        int r = next(8);
        long v = value();
        m.setRegister(r, v);
        model.registers[r] = v;
    }

    /** Mostly an instruction of a kind that is told, with few bits that are excluded. */
    private static void writeInstruction(NaturalMachine m, Model model) {
        if (model.ip < 0 || model.ip > 511) {
            return;
        }
        int kind = next(20) == 0 ? 0 : next(20) == 0 ? next(64) : 1 + next(57);
        int q = next(256);
        if (next(4) != 0) {
            q &= kind == 3 || kind >= 45 && kind <= 49 ? 0x1f : kind > 41 ? 0x0f : 0xff;
        }
        if (kind == 41 && next(4) != 0) {
            q = next(8) << 4;
        }
        put(m, model, model.ip, kind + 64 * next(4));
        put(m, model, model.ip + 1, q);
    }

    private static void put(NaturalMachine m, Model model, long address, int b) {
        if (m.store((int) address, b, 1)) {
            model.memory[(int) address] = b;
        }
    }

    private static int stepOf(NaturalMachine m) {
        try {
            return m.step();
        } catch (UnsupportedOperationException e) {
            return -1;
        }
    }

    private static void same(Check check, String what, NaturalMachine m, Model model) {
        check.due(what + ": fault", m.fault(), model.fault);
        check.due(what + ": ip", m.ip(), model.ip);
        check.due(what + ": condition", m.condition(), model.condition);
        int state = model.done ? NaturalMachine.DONE : NaturalMachine.RUNNING;
        check.due(what + ": state", m.state(), model.fault != 0 ? NaturalMachine.FAULTED : state);
        for (int r = 0; r < 8; r++) {
            check.due(what + ": R" + r, m.register(r), model.registers[r]);
        }
    }

    /** One half of the memory: of two machines the lower one, of the next two the upper one. */
    private static void sameMemory(Check check, int number, NaturalMachine m, Model model) {
        int from = number / 2 % 2 * LOOKED_AT;
        for (int address = from; address < from + LOOKED_AT; address++) {
            check.due("machine " + number + ": byte at " + address, m.peek(address), model.memory[address]);
        }
    }

    private static int next(int below) {
        seed = seed * 6364136223846793005L + 1442695040888963407L;
        return (int) ((seed >>> 33) % below);
    }

    private static long value() {
        switch (next(8)) {
            case 0:
                return (long) next(1 << 30) << 34 ^ (long) next(1 << 30) << 10 ^ next(1 << 10);
            case 1:
                return next(3) - 1;
            case 2:
                return 512 - next(10);
            case 3:
                return (long) (next(3) - 1) << 31 + next(33);
            default:
                return 20 + next(460);
        }
    }

    private static final class Fault extends RuntimeException {
        final int code;

        Fault(int code) {
            super(null, null, false, false);
            this.code = code;
        }
    }

    /** The second machine. */
    private static final class Model {
        final int p;
        int[] memory = new int[512];
        long[] registers = new long[8];
        boolean condition = false;
        boolean done = false;
        long ip = 0;
        int fault = 0;
        private BigInteger reader;
        private boolean h, t;
        private int q;

        Model(int p) {
            this.p = p;
        }

        int step() {
            int[] oldMemory = memory.clone();
            long[] oldRegisters = registers.clone();
            boolean oldCondition = condition;
            long oldIp = ip;
            try {
                return once();
            } catch (Fault f) {
                memory = oldMemory;
                registers = oldRegisters;
                condition = oldCondition;
                ip = oldIp;
                done = false;
                fault = f.code;
                return -1;
            }
        }

        private int once() {
            reader = big(ip);
            int o = take(1).intValueExact();
            q = take(1).intValueExact();
            int kind = o % 64;
            h = o / 64 % 2 == 1;
            t = o / 128 == 1;
            if (kind == 0) {
                throw new Fault(NaturalMachine.BREAK);
            } else if (kind <= 4) {
                flow(kind);
            } else {
                straight(kind);
                ip = reader.longValue();
            }
            return kind;
        }

        private void straight(int kind) {
            int[] moves = {29, 1, 16, 30, 2, 16, 31, 4, 16, 32, 8, 16, 33, 1, 32, 34, 2, 32, 35, 4, 32, 36, 8, 32,
                40, 8, 64, 50, p, 16, 51, p, 32};
            for (int i = 0; i < moves.length; i += 3) {
                if (moves[i] == kind) {
                    move(moves[i + 1], moves[i + 2]);
                    return;
                }
            }
            if (kind <= 28) {
                operate(kind);
            } else if (kind == 41) {
                refuse(bit(8) || bit(128) || q % 8 != 0);
                condition = registers[q / 16 % 8] % 2 != 0;
            } else if (kind == 42) {
                refuse(bit(8) || q / 16 > 1);
                registers[q % 8] = q / 16 == 1 ? reader.longValue() : condition ? 1 : 0;
            } else if (kind == 43 || kind == 44 || kind == 53 || kind == 54) {
                stack(kind);
            } else if (kind >= 45 && kind <= 49) {
                compareImmediate(kind);
            } else if (kind >= 55 && kind <= 57) {
                putFollowing(kind);
            } else {
                refuse(true);
            }
        }

        private void flow(int kind) {
            if (kind == 2) {
                BigInteger far = signed(big(q), 1).multiply(big(2));
                boolean does = !t || condition == h;
                ip = (does ? reader.add(far) : reader).longValue();
                return;
            }
            if (kind == 4) {
                if (registers[0] == 512) {
                    done = true;
                    ip = reader.longValue();
                } else {
                    ip = pop(p).longValue();
                }
                return;
            }
            refuse(h && !t || kind == 3 && q >= 32);
            BigInteger told = t ? (bit(8) ? index(h ? 64 : 32) : immediate(h ? 64 : 32)) : big(0);
            if (kind == 1 && bit(128) && condition != bit(64)) {
                ip = reader.longValue();
                return;
            }
            BigInteger target = (q % 8 == 0 ? big(0) : big(registers[q % 8])).add(told);
            if (bit(8)) {
                target = at(target, p);
            }
            if (bit(16)) {
                target = target.add(reader);
            }
            if (kind == 3) {
                push(reader, p);
            }
            ip = target.longValue();
        }

        private void move(int size, int bits) {
            refuse(t && !bit(8));
            BigInteger to = big(registers[q % 8]).add(t ? index(bits) : big(0));
            BigInteger from = big(registers[q / 16 % 8]).add(h ? index(bits) : big(0));
            BigInteger v = bit(128) ? at(from, size) : from;
            put(to, v, size);
        }

        private void put(BigInteger to, BigInteger v, int size) {
            if (bit(8)) {
                lay(to, v, size);
            } else {
                registers[q % 8] = unsigned(v, size).longValue();
            }
        }

        private void operate(int kind) {
            int size = h ? 8 : 4;
            refuse(kind <= 9 && bit(8));
            BigInteger more = t ? (bit(128) ? index(16) : immediate(16)) : big(0);
            BigInteger a = big(registers[q % 8]);
            BigInteger first = bit(8) ? at(a, size) : a;
            BigInteger second = big(registers[q / 16 % 8]).add(more);
            if (bit(128)) {
                second = at(second, size);
            }
            if (kind <= 9) {
                compare(kind, first, second, size);
            } else {
                put(a, result(kind, first, second, size), size);
            }
        }

        private void compare(int kind, BigInteger first, BigInteger second, int size) {
            int bySign = signed(first, size).compareTo(signed(second, size));
            int without = unsigned(first, size).compareTo(unsigned(second, size));
            boolean[] so = {bySign == 0, bySign <= 0, bySign >= 0, without <= 0, without >= 0};
            condition = so[kind - 5];
        }

        private BigInteger result(int kind, BigInteger first, BigInteger second, int size) {
            BigInteger x = signed(first, size);
            BigInteger y = signed(second, size);
            BigInteger ux = unsigned(first, size);
            BigInteger uy = unsigned(second, size);
            if (kind >= 16 && kind <= 19 && y.signum() == 0) {
                throw new Fault(NaturalMachine.DIVIDE);
            }
            int by = uy.mod(big(8 * size)).intValueExact();
            switch (kind) {
                case 10: return y.negate().subtract(BigInteger.ONE);
                case 11: return big(0).subtract(y);
                case 12: return x.add(y);
                case 13: return x.subtract(y);
                case 14: return x.multiply(y);
                case 15: return ux.multiply(uy);
                case 16: return x.divide(y);
                case 17: return ux.divide(uy);
                case 18: return x.remainder(y);
                case 19: return ux.remainder(uy);
                case 20: return ux.and(uy);
                case 21: return ux.or(uy);
                case 22: return ux.xor(uy);
                case 23: return ux.multiply(BigInteger.TWO.pow(by));
                case 24: return ux.divide(BigInteger.TWO.pow(by));
                case 25: return x.shiftRight(by);
                default: return signed(y, 1 << kind - 26);
            }
        }

        private void stack(int kind) {
            refuse(q >= 16 || kind >= 53 && h);
            int size = kind >= 53 ? p : h ? 8 : 4;
            BigInteger more = t ? (bit(8) ? index(16) : immediate(16)) : big(0);
            BigInteger a = big(registers[q % 8]).add(more);
            if (kind == 43 || kind == 53) {
                push(bit(8) ? at(a, size) : a, size);
                return;
            }
            BigInteger popped = pop(size);
            if (bit(8)) {
                lay(a, popped, size);
            } else {
                registers[q % 8] = signed(popped, size).add(more).longValue();
            }
        }

        private void compareImmediate(int kind) {
            int size = h ? 8 : 4;
            refuse(q >= 32 || bit(16) && !bit(8));
            BigInteger a = big(registers[q % 8]).add(bit(16) ? index(16) : big(0));
            BigInteger second = immediate(t ? 32 : 16);
            compare(kind - 40, bit(8) ? at(a, size) : a, second, size);
        }

        private void putFollowing(int kind) {
            refuse(!h && !t || bit(128) || bit(64) && !bit(8) || kind > 55 && q / 16 % 4 != 0);
            BigInteger to = big(registers[q % 8]).add(bit(64) ? index(16) : big(0));
            int bits = t ? (h ? 64 : 32) : 16;
            BigInteger v = kind == 56 ? index(bits) : immediate(bits);
            int size = bit(8) ? p : 8;
            if (kind == 55) {
                put(to, v, 1 << q / 16 % 4);
            } else {
                put(to, kind == 57 ? v.add(reader) : v, size);
            }
        }

        private void push(BigInteger v, int size) {
            registers[0] -= size;
            lay(big(registers[0]), v, size);
        }

        private BigInteger pop(int size) {
            BigInteger v = at(big(registers[0]), size);
            registers[0] += size;
            return v;
        }

        private BigInteger take(int size) {
            BigInteger v = at(reader, size);
            reader = reader.add(big(size));
            return v;
        }

        private BigInteger immediate(int bits) {
            return signed(take(bits / 8), bits / 8);
        }

        private BigInteger index(int bits) {
            BigInteger v = take(bits / 8);
            int k = v.shiftRight(bits - 4).intValue() % 8;
            int width = k * bits / 8;
            if (width > bits - 4) {
                throw new Fault(NaturalMachine.INDEX);
            }
            BigInteger number = v.mod(BigInteger.TWO.pow(bits - 4));
            BigInteger u = number.mod(BigInteger.TWO.pow(width));
            BigInteger value = number.shiftRight(width).add(u.multiply(big(p)));
            return v.testBit(bits - 1) ? value.negate() : value;
        }

        private int byteAt(BigInteger address) {
            BigInteger wrapped = signed(address, 8);
            if (wrapped.signum() < 0 || wrapped.compareTo(big(511)) > 0) {
                throw new Fault(NaturalMachine.ADDRESS);
            }
            return wrapped.intValueExact();
        }

        private BigInteger at(BigInteger address, int size) {
            BigInteger v = big(0);
            for (int i = 0; i < size; i++) {
                v = v.add(big(memory[byteAt(address.add(big(i)))]).shiftLeft(8 * i));
            }
            return v;
        }

        private void lay(BigInteger address, BigInteger v, int size) {
            for (int i = 0; i < size; i++) {
                memory[byteAt(address.add(big(i)))] = unsigned(v.shiftRight(8 * i), 1).intValueExact();
            }
        }

        private boolean bit(int b) {
            return q / b % 2 == 1;
        }

        private static void refuse(boolean excluded) {
            if (excluded) {
                throw new Fault(NaturalMachine.OPCODE);
            }
        }

        private static BigInteger big(long v) {
            return BigInteger.valueOf(v);
        }

        private static BigInteger unsigned(BigInteger v, int size) {
            return v.mod(BigInteger.TWO.pow(8 * size));
        }

        private static BigInteger signed(BigInteger v, int size) {
            BigInteger u = unsigned(v, size);
            return u.testBit(8 * size - 1) ? u.subtract(BigInteger.TWO.pow(8 * size)) : u;
        }
    }
}
