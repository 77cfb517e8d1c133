/**
 * A machine for byte code that is the same whether a pointer has four or eight bytes: offsets may be
 * told in part by how many pointers they go over, and a step either does all that its instruction says
 * or nothing.
 *
 * How a step does all or nothing: a fault that is met is only noted in {@code met}, the first one stays,
 * and nothing of the machine is changed once one is noted. No kind has a way to fault behind its first
 * change: what it writes to the memory comes before registers and condition.
 */
public final class NaturalMachine {
    public static final int STOPPED = 0, RUNNING = 1, DONE = 2, FAULTED = 3;
    public static final int NO_FAULT = 0, OPCODE = 1, ADDRESS = 2, DIVIDE = 3, INDEX = 4, BREAK = 5;

    private static final int MEMORY_SIZE = 512;
    private static final int REGISTER_COUNT = 8;
    private static final int MOST_INSTRUCTIONS = 200;
    private static final int REGISTER_SIZE = 8;
    /** The bits of an index that are its sign and k. */
    private static final int INDEX_HEAD = 4;
    /** What is asked of an index, if it is the value. */
    private static final int VALUE = 2;

    private static final int KIND_BREAK = 0, JUMP = 1, SHORT_JUMP = 2, CALL = 3, RETURN = 4;
    private static final int EQUAL = 5, AT_MOST = 6, AT_LEAST = 7;
    private static final int AT_MOST_UNSIGNED = 8, AT_LEAST_UNSIGNED = 9;
    /** By so much more are the kinds that compare with an immediate. */
    private static final int IMMEDIATE = 40;
    private static final int NOT = 10, NEGATE = 11, ADD = 12, SUBTRACT = 13, MULTIPLY = 14;
    private static final int MULTIPLY_UNSIGNED = 15, QUOTIENT = 16, QUOTIENT_UNSIGNED = 17;
    private static final int REST = 18, REST_UNSIGNED = 19, AND = 20, OR = 21, EXCLUSIVE_OR = 22;
    private static final int SHIFT_LEFT = 23, SHIFT_RIGHT = 24, SHIFT_RIGHT_SIGNED = 25;
    private static final int EXTEND_1 = 26, EXTEND_2 = 27, EXTEND_4 = 28;
    private static final int MOVE_16 = 29, MOVE_32 = 33, MOVE_64 = 40;
    private static final int SET_CONDITION = 41, GET_SPECIAL = 42;
    private static final int PUSH = 43, POP = 44;
    private static final int MOVE_POINTER_16 = 50, MOVE_POINTER_32 = 51;
    private static final int PUSH_POINTER = 53, POP_POINTER = 54;
    private static final int PUT_IMMEDIATE = 55, PUT_INDEX = 56, PUT_RELATIVE = 57;

    private final int pointerSize;
    private final byte[] memory;
    private final long[] registers;
    private boolean condition;
    private long ip;
    private int state;
    private int fault;

    // The instruction at hand.
    private int kind;
    private boolean h;
    private boolean t;
    private int q;
    /** The address behind what has been fetched; NEXT, when all of the instruction has been. */
    private long next;
    private int met;

    public NaturalMachine(int wide) {
        pointerSize = (wide & 1) == 1 ? 8 : 4;
        memory = new byte[MEMORY_SIZE];
        registers = new long[REGISTER_COUNT];
        registers[0] = MEMORY_SIZE;
        condition = false;
        ip = 0;
        state = STOPPED;
        fault = NO_FAULT;
    }

    public boolean store(int address, long v, int n) {
        if (n < 1 || n > 8 || !inMemory(address, n)) {
            return false;
        }
        writeBytes(address, v, n);
        return true;
    }

    public int peek(int address) {
        return inMemory(address, 1) ? memory[address] & 0xff : -1;
    }

    public boolean setRegister(int r, long v) {
        if (!isRegister(r)) {
            return false;
        }
        registers[r] = v;
        return true;
    }

    public long register(int r) {
        return isRegister(r) ? registers[r] : 0;
    }

    public boolean start(int address) {
        if (!inMemory(address, 1)) {
            return false;
        }
        ip = address;
        state = RUNNING;
        fault = NO_FAULT;
        return true;
    }

    public int step() throws IllegalStateException, UnsupportedOperationException {
        if (state != RUNNING) {
            throw new IllegalStateException();
        }
        if (!doInstruction()) {
            throw new UnsupportedOperationException();
        }
        return kind;
    }

    public int run(int n) throws IllegalArgumentException {
        if (n < 0 || n > MOST_INSTRUCTIONS) {
            throw new IllegalArgumentException();
        }
        for (int done = 0; done < n; done++) {
            if (state != RUNNING || !doInstruction()) {
                return done;
            }
        }
        return n;
    }

    public int state() {
        return state;
    }

    public int fault() {
        return fault;
    }

    public long ip() {
        return ip;
    }

    public boolean condition() {
        return condition;
    }

    public long index(long v, int bits, int what) throws IllegalArgumentException {
        boolean known = (bits == 16 || bits == 32 || bits == 64) && what >= 0 && what <= 2;
        if (!known || widthOf(v, bits) > bits - INDEX_HEAD) {
            throw new IllegalArgumentException();
        }
        return partOf(v, bits, what);
    }

    // One instruction.

    /** False, with the machine FAULTED, if a fault was met. */
    private boolean doInstruction() {
        met = NO_FAULT;
        int begin = (int) read(ip, 2);
        next = ip + 2;
        kind = begin & 63;
        h = (begin & 64) != 0;
        t = (begin & 128) != 0;
        q = begin >> 8;
        long after = met == NO_FAULT ? execute() : ip;
        if (met != NO_FAULT) {
            state = FAULTED;
            fault = met;
            return false;
        }
        ip = after;
        return true;
    }

    /** Answers what the IP is afterwards. */
    private long execute() {
        switch (kind) {
            case KIND_BREAK:
                meet(BREAK);
                return next;
            case JUMP:
                return jump();
            case SHORT_JUMP:
                return jumpShort();
            case CALL:
                return call();
            case RETURN:
                return comeBack();
            case MOVE_64:
                move(8, 64);
                return next;
            case MOVE_POINTER_16:
                move(pointerSize, 16);
                return next;
            case MOVE_POINTER_32:
                move(pointerSize, 32);
                return next;
            case SET_CONDITION:
                setConditionFromRegister();
                return next;
            case GET_SPECIAL:
                getSpecial();
                return next;
            case PUSH:
            case PUSH_POINTER:
                pushNumber();
                return next;
            case POP:
            case POP_POINTER:
                popNumber();
                return next;
            default:
                break;
        }
        if (among(EQUAL, AT_LEAST_UNSIGNED)) {
            compare();
        } else if (among(NOT, EXTEND_4)) {
            compute();
        } else if (among(MOVE_16, MOVE_16 + 3)) {
            move(1 << (kind - MOVE_16), 16);
        } else if (among(MOVE_32, MOVE_32 + 3)) {
            move(1 << (kind - MOVE_32), 32);
        } else if (among(IMMEDIATE + EQUAL, IMMEDIATE + AT_LEAST_UNSIGNED)) {
            compareImmediate();
        } else if (among(PUT_IMMEDIATE, PUT_RELATIVE)) {
            putFollowing();
        } else {
            meet(OPCODE);
        }
        return next;
    }

    private boolean among(int from, int to) {
        return kind >= from && kind <= to;
    }

    // Kinds that say where to go on.

    private long jump() {
        exclude(h && !t);
        long offset = t ? fetch(h ? 64 : 32, atA()) : 0;
        boolean idle = has(128) && condition != has(64);
        return idle ? next : target(offset);
    }

    private long jumpShort() {
        boolean idle = t && condition != h;
        return idle ? next : next + 2 * (byte) q;
    }

    private long call() {
        exclude(h && !t || has(128 | 64 | 32));
        long offset = t ? fetch(h ? 64 : 32, atA()) : 0;
        long target = target(offset);
        push(next, pointerSize);
        return target;
    }

    private long target(long offset) {
        long base = a() == 0 ? 0 : registers[a()];
        long target = atA() ? read(base + offset, pointerSize) : base + offset;
        return has(16) ? target + next : target;
    }

    private long comeBack() {
        if (registers[0] == MEMORY_SIZE) {
            state = DONE;
            return next;
        }
        long target = read(registers[0], pointerSize);
        putRegister(0, registers[0] + pointerSize, REGISTER_SIZE);
        return target;
    }

    // Kinds that set the condition.

    private void compare() {
        exclude(atA());
        long offset = t ? fetch(16, atB()) : 0;
        decide(kind, registers[a()], second(offset));
    }

    private void compareImmediate() {
        exclude(has(128 | 64 | 32) || has(16) && !atA());
        long offset = has(16) ? fetch(16, true) : 0;
        long immediate = fetch(t ? 32 : 16, false);
        decide(kind - IMMEDIATE, first(offset), immediate);
    }

    private void decide(int how, long first, long second) {
        if (met != NO_FAULT) {
            return;
        }
        // Extending the sign of both leaves their unsigned order as it is too.
        long x = signed(first, size());
        long y = signed(second, size());
        switch (how) {
            case EQUAL:
                condition = x == y;
                break;
            case AT_MOST:
                condition = x <= y;
                break;
            case AT_LEAST:
                condition = x >= y;
                break;
            case AT_MOST_UNSIGNED:
                condition = Long.compareUnsigned(x, y) <= 0;
                break;
            default:
                condition = Long.compareUnsigned(x, y) >= 0;
                break;
        }
    }

    private void setConditionFromRegister() {
        exclude(atA() || atB() || a() != 0);
        if (met == NO_FAULT) {
            condition = (registers[b()] & 1) == 1;
        }
    }

    // Kinds that put a number somewhere.

    private void compute() {
        long offset = t ? fetch(16, atB()) : 0;
        long first = signed(first(0), size());
        long second = signed(second(offset), size());
        put(0, result(first, second), size());
    }

    private long result(long first, long second) {
        if (among(QUOTIENT, REST_UNSIGNED)) {
            return divided(first, second);
        }
        if (among(SHIFT_LEFT, SHIFT_RIGHT_SIGNED)) {
            return shifted(first, (int) low(second, h ? 6 : 5));
        }
        return combined(first, second);
    }

    private long divided(long first, long second) {
        if (second == 0) {
            meet(DIVIDE);
            return 0;
        }
        switch (kind) {
            case QUOTIENT:
                return first / second;
            case QUOTIENT_UNSIGNED:
                return Long.divideUnsigned(low(first, 8 * size()), low(second, 8 * size()));
            case REST:
                return first % second;
            default:
                return Long.remainderUnsigned(low(first, 8 * size()), low(second, 8 * size()));
        }
    }

    private long combined(long first, long second) {
        switch (kind) {
            case NOT:
                return ~second;
            case NEGATE:
                return -second;
            case ADD:
                return first + second;
            case SUBTRACT:
                return first - second;
            case MULTIPLY:
            case MULTIPLY_UNSIGNED:
                return first * second;
            case AND:
                return first & second;
            case OR:
                return first | second;
            case EXCLUSIVE_OR:
                return first ^ second;
            case EXTEND_1:
                return signed(second, 1);
            case EXTEND_2:
                return signed(second, 2);
            default:
                return signed(second, 4);
        }
    }

    private long shifted(long first, int by) {
        switch (kind) {
            case SHIFT_LEFT:
                return first << by;
            case SHIFT_RIGHT:
                return low(first, 8 * size()) >>> by;
            default:
                return first >> by;
        }
    }

    private void move(int size, int bits) {
        exclude(t && !atA());
        long firstOffset = t ? fetch(bits, true) : 0;
        long secondOffset = h ? fetch(bits, true) : 0;
        long second = registers[b()] + secondOffset;
        put(firstOffset, atB() ? read(second, size) : second, size);
    }

    private void getSpecial() {
        exclude(atA() || atB() || b() > 1);
        long flag = condition ? 1 : 0;
        putRegister(a(), b() == 0 ? flag : next, REGISTER_SIZE);
    }

    private void putFollowing() {
        boolean sizeTold = kind == PUT_IMMEDIATE;
        int sizeBits = q / 16 % 4;
        exclude(!h && !t || has(128) || has(64) && !atA() || !sizeTold && sizeBits != 0);
        long offset = has(64) ? fetch(16, true) : 0;
        int bits = h && t ? 64 : h ? 16 : 32;
        long number = fetch(bits, kind == PUT_INDEX);
        int size = atA() ? pointerSize : REGISTER_SIZE;
        put(offset, kind == PUT_RELATIVE ? next + number : number, sizeTold ? 1 << sizeBits : size);
    }

    // The stack.

    private void pushNumber() {
        excludeOfStackKinds();
        long offset = t ? fetch(16, atA()) : 0;
        long number = registers[a()] + offset;
        int size = stackSize();
        push(atA() ? read(number, size) : number, size);
    }

    private void popNumber() {
        excludeOfStackKinds();
        long offset = t ? fetch(16, atA()) : 0;
        int size = stackSize();
        long number = read(registers[0], size);
        if (atA()) {
            write(registers[a()] + offset, number, size);
        }
        putRegister(0, registers[0] + size, REGISTER_SIZE);
        // Behind the line above, so that R0 too becomes what was popped.
        if (!atA()) {
            putRegister(a(), signed(number, size) + offset, REGISTER_SIZE);
        }
    }

    private void excludeOfStackKinds() {
        exclude(has(128 | 64 | 32 | 16) || ofPointers() && h);
    }

    private int stackSize() {
        return ofPointers() ? pointerSize : size();
    }

    private boolean ofPointers() {
        return kind == PUSH_POINTER || kind == POP_POINTER;
    }

    private void push(long number, int size) {
        long top = registers[0] - size;
        write(top, number, size);
        putRegister(0, top, REGISTER_SIZE);
    }

    // Parts of the instruction at hand.

    private int a() {
        return q & 7;
    }

    private boolean atA() {
        return has(8);
    }

    private int b() {
        return q >> 4 & 7;
    }

    private boolean atB() {
        return has(128);
    }

    /** Whether q has one of these bits. */
    private boolean has(int bits) {
        return (q & bits) != 0;
    }

    private int size() {
        return h ? 8 : 4;
    }

    private long first(long offset) {
        return atA() ? read(registers[a()] + offset, size()) : registers[a()];
    }

    private long second(long offset) {
        long number = registers[b()] + offset;
        return atB() ? read(number, size()) : number;
    }

    /** The value of the index, or the immediate, that lies behind what has been fetched. */
    private long fetch(int bits, boolean isIndex) {
        long v = read(next, bits / 8);
        next += bits / 8;
        if (!isIndex) {
            return signed(v, bits / 8);
        }
        if (widthOf(v, bits) > bits - INDEX_HEAD) {
            meet(INDEX);
        }
        return partOf(v, bits, VALUE);
    }

    // Faults.

    private void meet(int newFault) {
        if (met == NO_FAULT) {
            met = newFault;
        }
    }

    private void exclude(boolean excluded) {
        if (excluded) {
            meet(OPCODE);
        }
    }

    // Memory and registers.

    private static boolean inMemory(long address, int size) {
        return address >= 0 && address <= MEMORY_SIZE - size;
    }

    private static boolean isRegister(int r) {
        return r >= 0 && r < REGISTER_COUNT;
    }

    private long read(long address, int size) {
        if (!inMemory(address, size)) {
            meet(ADDRESS);
            return 0;
        }
        long v = 0;
        for (int i = size - 1; i >= 0; i--) {
            v = v << 8 | memory[(int) address + i] & 0xff;
        }
        return v;
    }

    private void write(long address, long v, int size) {
        if (!inMemory(address, size)) {
            meet(ADDRESS);
            return;
        }
        if (met == NO_FAULT) {
            writeBytes((int) address, v, size);
        }
    }

    private void writeBytes(int address, long v, int size) {
        for (int i = 0; i < size; i++) {
            memory[address + i] = (byte) (v >>> 8 * i);
        }
    }

    /** Where the first is: into R(A), or with @A to R(A) + the offset. */
    private void put(long offset, long v, int size) {
        if (atA()) {
            write(registers[a()] + offset, v, size);
        } else {
            putRegister(a(), v, size);
        }
    }

    private void putRegister(int r, long v, int size) {
        if (met == NO_FAULT) {
            registers[r] = low(v, 8 * size);
        }
    }

    // Numbers.

    private static long low(long v, int bits) {
        return bits >= 64 ? v : v & ((1L << bits) - 1);
    }

    private static long signed(long v, int size) {
        int above = 64 - 8 * size;
        return v << above >> above;
    }

    private static int widthOf(long v, int bits) {
        int k = (int) (v >>> (bits - INDEX_HEAD)) & 7;
        return k * bits / 8;
    }

    /** What is asked of an index: u (0), c (1) or the value (2). */
    private long partOf(long v, int bits, int what) {
        int width = widthOf(v, bits);
        long u = low(v, width);
        long c = low(v, bits - INDEX_HEAD) >>> width;
        if (what != VALUE) {
            return what == 0 ? u : c;
        }
        long distance = c + u * pointerSize;
        boolean negative = (v >>> (bits - 1) & 1) == 1;
        return negative ? -distance : distance;
    }
}
