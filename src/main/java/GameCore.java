/**
 * The Sharp SM83, the processor of the Game Boy, one instruction at a time over a flat memory,
 * with a timer that goes by whole instructions.
 *
 * An opcode is read as three octal digits: its quarter (bits 7 and 6), its row (bits 5 to 3)
 * and its column (bits 2 to 0). The instruction tables are regular in these.
 */
public final class GameCore {
    public static final int NONE = -1;

    private static final int DONE = 0;
    private static final int IN_HALT = 1;
    private static final int REFUSED = 2;

    private static final int MOST_STEPS = 2000;
    private static final int CYCLES_MASK = (1 << 30) - 1;
    private static final int DISPATCH_CYCLES = 5;
    private static final int INTERRUPTS = 5;
    private static final int INTERRUPT_BITS = 31;
    private static final int FED_BYTES = 16;

    private static final int LAST_PLACE = 0xFFFF;
    private static final int HIGH_PAGE = 0xFF00;
    private static final int DIVIDER = 0xFF04;
    private static final int TIMER = 0xFF05;
    private static final int TIMER_RELOAD = 0xFF06;
    private static final int TIMER_CONTROL = 0xFF07;
    private static final int INTERRUPT_FLAGS = 0xFF0F;
    private static final int INTERRUPT_ENABLE = 0xFFFF;
    private static final int TIMER_ON = 4;
    private static final int TIMER_INTERRUPT = 4;

    private static final int AF = 0;
    private static final int HL = 3;
    private static final int SP = 4;
    private static final int PC = 5;

    private static final int ZERO = 128;
    private static final int NEGATIVE = 64;
    private static final int HALF_CARRY = 32;
    private static final int CARRY = 16;

    /** Codes of the opcodes' byte operands: B C D E H L (HL) A are 0 to 7. */
    private static final int CODE_C = 1;
    private static final int CODE_AT_HL = 6;
    private static final int CODE_A = 7;

    private static final int HALT = 0x76;
    private static final int BIT_PAGE = 0xCB;
    private static final int DI = 0xF3;

    private static final int SUM_COMPARE = 7;

    /**
     * M-cycles by opcode, of JR, JP, CALL and conditional RET as if they did not jump; 0 stands
     * for what is no instruction, and for STOP, which the document treats alike.
     */
    private static final int[] BASE_CYCLES = {
        1, 3, 2, 2, 1, 1, 2, 1, 5, 2, 2, 2, 1, 1, 2, 1,
        0, 3, 2, 2, 1, 1, 2, 1, 2, 2, 2, 2, 1, 1, 2, 1,
        2, 3, 2, 2, 1, 1, 2, 1, 2, 2, 2, 2, 1, 1, 2, 1,
        2, 3, 2, 2, 3, 3, 3, 1, 2, 2, 2, 2, 1, 1, 2, 1,
        1, 1, 1, 1, 1, 1, 2, 1, 1, 1, 1, 1, 1, 1, 2, 1,
        1, 1, 1, 1, 1, 1, 2, 1, 1, 1, 1, 1, 1, 1, 2, 1,
        1, 1, 1, 1, 1, 1, 2, 1, 1, 1, 1, 1, 1, 1, 2, 1,
        2, 2, 2, 2, 2, 2, 1, 2, 1, 1, 1, 1, 1, 1, 2, 1,
        1, 1, 1, 1, 1, 1, 2, 1, 1, 1, 1, 1, 1, 1, 2, 1,
        1, 1, 1, 1, 1, 1, 2, 1, 1, 1, 1, 1, 1, 1, 2, 1,
        1, 1, 1, 1, 1, 1, 2, 1, 1, 1, 1, 1, 1, 1, 2, 1,
        1, 1, 1, 1, 1, 1, 2, 1, 1, 1, 1, 1, 1, 1, 2, 1,
        2, 3, 3, 3, 3, 4, 2, 4, 2, 4, 3, 2, 3, 3, 2, 4,
        2, 3, 3, 0, 3, 4, 2, 4, 2, 4, 3, 0, 3, 0, 2, 4,
        3, 3, 2, 0, 0, 4, 2, 4, 4, 1, 4, 0, 0, 0, 2, 4,
        3, 3, 2, 1, 0, 4, 2, 4, 3, 2, 4, 1, 0, 0, 2, 4
    };

    /** The COUNTER's bits that must all be 0 for the timer to go on, by FF07's lowest two bits. */
    private static final int[] TIMER_MASKS = {255, 3, 15, 63};

    private final Memory memory;
    private final Registers registers;
    private final Sums sums;
    private boolean ime;
    private boolean eiWaits;
    private boolean halted;
    private boolean haltBug;
    private int cycles;

    public GameCore() {
        memory = new Memory();
        sums = new Sums();
        registers = sums.registers;
    }

    public boolean poke(int place, int v) {
        if (place < 0 || place > LAST_PLACE) {
            return false;
        }
        memory.store(place, v);
        return true;
    }

    public boolean feed(int place, int a, int b, int c, int d) {
        if (place < 0 || place > LAST_PLACE - FED_BYTES + 1) {
            return false;
        }
        memory.storeNumber(place, a);
        memory.storeNumber(place + 4, b);
        memory.storeNumber(place + 8, c);
        memory.storeNumber(place + 12, d);
        return true;
    }

    public int peek(int place) {
        if (place < 0 || place > LAST_PLACE) {
            return NONE;
        }
        return memory.at(place);
    }

    public int step() {
        return takeStep();
    }

    public int run(int n) {
        if (n < 1 || n > MOST_STEPS) {
            return NONE;
        }
        for (int taken = 0; taken < n; taken++) {
            if (takeStep() == REFUSED) {
                return taken;
            }
        }
        return n;
    }

    public boolean request(int bit) {
        if (bit < 0 || bit >= INTERRUPTS) {
            return false;
        }
        memory.raiseInterrupts(1 << bit);
        return true;
    }

    public int reg(int i) {
        return registers.word(i);
    }

    public boolean set(int i, int v) {
        return registers.setWord(i, v);
    }

    public int look(int what) {
        switch (what) {
            case 0:
                return ime ? 1 : 0;
            case 1:
                return eiWaits ? 1 : 0;
            case 2:
                return halted ? 1 : 0;
            case 3:
                return haltBug ? 1 : 0;
            case 4:
                return memory.counter;
            default:
                return NONE;
        }
    }

    public int mcycles() {
        return cycles;
    }

    private int takeStep() {
        int pending = memory.pending();
        if (ime && pending != 0) {
            dispatch(pending);
            pass(DISPATCH_CYCLES);
            return DONE;
        }
        if (halted && pending == 0) {
            pass(1);
            return IN_HALT;
        }
        int opcode = memory.at(registers.word(PC));
        int base = BASE_CYCLES[opcode & 0xFF];
        if (base == 0) {
            return REFUSED;
        }
        halted = false;
        leaveOpcode();
        boolean eiIsDue = eiWaits;
        int more = execute(opcode);
        if (eiIsDue && opcode != DI) {
            ime = true;
            eiWaits = false;
        }
        pass(base + more);
        return DONE;
    }

    private void dispatch(int pending) {
        int bit = 0;
        while (bit < INTERRUPTS - 1 && ((pending >> bit) & 1) == 0) {
            bit++;
        }
        ime = false;
        halted = false;
        // The pushes may land on IF itself, so its bit has to be gone before them.
        memory.clearInterrupt(bit);
        push(registers.word(PC));
        registers.setWord(PC, 0x40 + 8 * bit);
    }

    private void pass(int count) {
        cycles = (cycles + count) & CYCLES_MASK;
        for (int i = 0; i < count; i++) {
            memory.tick();
        }
    }

    private void leaveOpcode() {
        if (haltBug) {
            haltBug = false;
        } else {
            registers.setWord(PC, registers.word(PC) + 1);
        }
    }

    /** Gives the M-cycles beyond BASE_CYCLES, as do the methods for single instructions. */
    private int execute(int opcode) {
        int row = (opcode >> 3) & 7;
        int column = opcode & 7;
        if (opcode == HALT) {
            halt();
            return 0;
        }
        if (opcode == BIT_PAGE) {
            return executeBitPage();
        }
        switch (opcode >> 6) {
            case 0:
                return executeFirstQuarter(row, column);
            case 1:
                setOperand(row, operand(column));
                return 0;
            case 2:
                sums.apply(row, operand(column));
                return 0;
            default:
                return executeLastQuarter(row, column);
        }
    }

    private int executeFirstQuarter(int row, int column) {
        switch (column) {
            case 0:
                if (row == 1) {
                    storeSp();
                }
                return row < 3 ? 0 : jumpRelativeIf(row == 3 || holds(row - 4));
            case 1:
                loadOrAddWord(row);
                return 0;
            case 2:
                loadByPair(row);
                return 0;
            case 3:
                stepPair(row);
                return 0;
            case 4:
                setOperand(row, sums.increment(operand(row)));
                return 0;
            case 5:
                setOperand(row, sums.decrement(operand(row)));
                return 0;
            case 6:
                setOperand(row, fetch());
                return 0;
            default:
                sums.changeA(row);
                return 0;
        }
    }

    private int executeLastQuarter(int row, int column) {
        switch (column) {
            case 0:
                return row < 4 ? returnIf(holds(row)) : executeWithByte(row);
            case 1:
                popOrMove(row);
                return 0;
            case 2:
                return row < 4 ? jumpIf(holds(row)) : loadFar(row);
            case 3:
                return row == 0 ? jumpIf(true) : switchInterrupts(row == 7);
            case 4:
                return callIf(holds(row));
            case 5:
                return row == 1 ? callIf(true) : pushPair(row);
            case 6:
                sums.apply(row, fetch());
                return 0;
            default:
                push(registers.word(PC));
                registers.setWord(PC, 8 * row);
                return 0;
        }
    }

    private void storeSp() {
        int place = fetchWord();
        int sp = registers.word(SP);
        memory.write(place, sp);
        memory.write(place + 1, sp >> 8);
    }

    private void loadOrAddWord(int row) {
        int pair = 1 + (row >> 1);
        if ((row & 1) == 0) {
            registers.setWord(pair, fetchWord());
        } else {
            sums.addToHl(registers.word(pair));
        }
    }

    /** LD (BC),A, LD (DE),A, LD (HL+),A, LD (HL-),A, and back. */
    private void loadByPair(int row) {
        int pair = Math.min(1 + (row >> 1), HL);
        int place = registers.word(pair);
        if ((row & 1) == 0) {
            memory.write(place, registers.a());
        } else {
            registers.setA(memory.at(place));
        }
        if (row >= 4) {
            registers.setWord(HL, row < 6 ? place + 1 : place - 1);
        }
    }

    private void stepPair(int row) {
        int pair = 1 + (row >> 1);
        int by = (row & 1) == 0 ? 1 : -1;
        registers.setWord(pair, registers.word(pair) + by);
    }

    /** LDH (a8),A, ADD SP,e8, LDH A,(a8), LD HL,SP+e8. */
    private int executeWithByte(int row) {
        int v = fetch();
        switch (row) {
            case 4:
                memory.write(HIGH_PAGE + v, registers.a());
                break;
            case 5:
                registers.setWord(SP, sums.spPlus(v));
                break;
            case 6:
                registers.setA(memory.at(HIGH_PAGE + v));
                break;
            default:
                registers.setWord(HL, sums.spPlus(v));
        }
        return 0;
    }

    /** RET, RETI, JP HL, LD SP,HL in the odd rows, POP in the others. */
    private void popOrMove(int row) {
        switch (row) {
            case 1:
                registers.setWord(PC, pop());
                break;
            case 3:
                registers.setWord(PC, pop());
                ime = true;
                break;
            case 5:
                registers.setWord(PC, registers.word(HL));
                break;
            case 7:
                registers.setWord(SP, registers.word(HL));
                break;
            default:
                registers.setWord(stackPair(row), pop());
        }
    }

    /** LD (FF00 + C),A, LD (a16),A, and back. */
    private int loadFar(int row) {
        int place = (row & 1) == 0 ? HIGH_PAGE + registers.half(CODE_C) : fetchWord();
        if (row < 6) {
            memory.write(place, registers.a());
        } else {
            registers.setA(memory.at(place));
        }
        return 0;
    }

    private int switchInterrupts(boolean on) {
        if (!on) {
            ime = false;
            eiWaits = false;
        } else if (!ime) {
            eiWaits = true;
        }
        return 0;
    }

    private int pushPair(int row) {
        push(registers.word(stackPair(row)));
        return 0;
    }

    private int executeBitPage() {
        int opcode = fetch();
        int row = (opcode >> 3) & 7;
        int code = opcode & 7;
        int v = operand(code);
        switch (opcode >> 6) {
            case 0:
                setOperand(code, sums.shift(row, v));
                break;
            case 1:
                sums.testBit(row, v);
                return code == CODE_AT_HL ? 1 : 0;
            case 2:
                setOperand(code, v & ~(1 << row));
                break;
            default:
                setOperand(code, v | (1 << row));
        }
        return code == CODE_AT_HL ? 2 : 0;
    }

    private void halt() {
        if (ime || memory.pending() == 0) {
            halted = true;
        } else if (eiWaits) {
            registers.setWord(PC, registers.word(PC) - 1);
        } else {
            haltBug = true;
        }
    }

    private int jumpRelativeIf(boolean taken) {
        int distance = (byte) fetch();
        if (!taken) {
            return 0;
        }
        registers.setWord(PC, registers.word(PC) + distance);
        return 1;
    }

    private int jumpIf(boolean taken) {
        int place = fetchWord();
        if (!taken) {
            return 0;
        }
        registers.setWord(PC, place);
        return 1;
    }

    private int callIf(boolean taken) {
        int place = fetchWord();
        if (!taken) {
            return 0;
        }
        push(registers.word(PC));
        registers.setWord(PC, place);
        return 3;
    }

    private int returnIf(boolean taken) {
        if (!taken) {
            return 0;
        }
        registers.setWord(PC, pop());
        return 3;
    }

    /** Conditions NZ Z NC C are 0 to 3. */
    private boolean holds(int condition) {
        boolean wanted = (condition & 1) == 1;
        return registers.flag(condition < 2 ? ZERO : CARRY) == wanted;
    }

    /** PUSH and POP name BC DE HL AF, where other opcodes have SP for AF. */
    private static int stackPair(int row) {
        return (1 + (row >> 1)) & 3;
    }

    private int fetch() {
        int pc = registers.word(PC);
        registers.setWord(PC, pc + 1);
        return memory.at(pc);
    }

    private int fetchWord() {
        int pc = registers.word(PC);
        registers.setWord(PC, pc + 2);
        return memory.at(pc) | (memory.at(pc + 1) << 8);
    }

    private void push(int v) {
        int sp = registers.word(SP);
        memory.write(sp - 1, v >> 8);
        memory.write(sp - 2, v);
        registers.setWord(SP, sp - 2);
    }

    private int pop() {
        int sp = registers.word(SP);
        registers.setWord(SP, sp + 2);
        return memory.at(sp) | (memory.at(sp + 1) << 8);
    }

    private int operand(int code) {
        return code == CODE_AT_HL ? memory.at(registers.word(HL)) : registers.half(code);
    }

    private void setOperand(int code, int v) {
        if (code == CODE_AT_HL) {
            memory.write(registers.word(HL), v);
        } else {
            registers.setHalf(code, v);
        }
    }

    /** The bytes and the timer, which lives in some of them. Places wrap. */
    private static final class Memory {
        private final byte[] bytes = new byte[LAST_PLACE + 1];
        private int counter;

        int at(int place) {
            return bytes[place & LAST_PLACE] & 0xFF;
        }

        void store(int place, int v) {
            bytes[place & LAST_PLACE] = (byte) v;
        }

        void storeNumber(int place, int v) {
            for (int i = 0; i < 4; i++) {
                store(place + i, v >> (24 - 8 * i));
            }
        }

        /** An instruction's way to change a byte, unlike store. */
        void write(int place, int v) {
            if ((place & LAST_PLACE) == DIVIDER) {
                counter = 0;
                bytes[DIVIDER] = 0;
            } else {
                bytes[place & LAST_PLACE] = (byte) v;
            }
        }

        int pending() {
            return at(INTERRUPT_ENABLE) & at(INTERRUPT_FLAGS) & INTERRUPT_BITS;
        }

        void raiseInterrupts(int bits) {
            store(INTERRUPT_FLAGS, at(INTERRUPT_FLAGS) | bits);
        }

        void clearInterrupt(int bit) {
            store(INTERRUPT_FLAGS, at(INTERRUPT_FLAGS) & ~(1 << bit));
        }

        void tick() {
            counter = (counter + 1) & 0xFF;
            if ((counter & 63) == 0) {
                store(DIVIDER, at(DIVIDER) + 1);
            }
            int control = at(TIMER_CONTROL);
            if ((control & TIMER_ON) != 0 && (counter & TIMER_MASKS[control & 3]) == 0) {
                countTimer();
            }
        }

        private void countTimer() {
            store(TIMER, at(TIMER) + 1);
            if (at(TIMER) == 0) {
                store(TIMER, at(TIMER_RELOAD));
                raiseInterrupts(TIMER_INTERRUPT);
            }
        }
    }

    /** AF BC DE HL SP PC, in this order, so that pairs and byte operands are found by their codes. */
    private static final class Registers {
        private final int[] words = new int[PC + 1];

        int word(int i) {
            if (i < 0 || i >= words.length) {
                return NONE;
            }
            return words[i];
        }

        boolean setWord(int i, int v) {
            if (i < 0 || i >= words.length) {
                return false;
            }
            words[i] = v & (i == AF ? 0xFFF0 : 0xFFFF);
            return true;
        }

        int half(int code) {
            int word = words[pairOf(code)];
            return isHigh(code) ? word >> 8 : word & 0xFF;
        }

        void setHalf(int code, int v) {
            int pair = pairOf(code);
            int byteOfV = v & 0xFF;
            words[pair] = isHigh(code)
                ? (byteOfV << 8) | (words[pair] & 0xFF)
                : (words[pair] & 0xFF00) | byteOfV;
        }

        int a() {
            return words[AF] >> 8;
        }

        void setA(int v) {
            words[AF] = ((v & 0xFF) << 8) | (words[AF] & 0xFF);
        }

        boolean flag(int flag) {
            return (words[AF] & flag) != 0;
        }

        void setFlags(boolean zero, boolean negative, boolean halfCarry, boolean carry) {
            int flags = (zero ? ZERO : 0) | (negative ? NEGATIVE : 0)
                | (halfCarry ? HALF_CARRY : 0) | (carry ? CARRY : 0);
            words[AF] = (words[AF] & 0xFF00) | flags;
        }

        /** Always 0 to 3, and so an index of words. */
        private static int pairOf(int code) {
            return (1 + (code >> 1)) & 3;
        }

        private static boolean isHigh(int code) {
            return code == CODE_A || (code & 1) == 0;
        }
    }

    /** Sums and shifts over the registers, with the flags that come of them. */
    private static final class Sums {
        private final Registers registers = new Registers();

        /** ADD ADC SUB SBC AND XOR OR CP are 0 to 7. */
        void apply(int kind, int v) {
            int carry = registers.flag(CARRY) ? 1 : 0;
            switch (kind) {
                case 0:
                    add(v, 0);
                    break;
                case 1:
                    add(v, carry);
                    break;
                case 2:
                case SUM_COMPARE:
                    subtract(v, 0, kind != SUM_COMPARE);
                    break;
                case 3:
                    subtract(v, carry, true);
                    break;
                case 4:
                    putLogic(registers.a() & v, true);
                    break;
                case 5:
                    putLogic(registers.a() ^ v, false);
                    break;
                default:
                    putLogic(registers.a() | v, false);
            }
        }

        private void add(int v, int carry) {
            int a = registers.a();
            int sum = a + v + carry;
            registers.setA(sum);
            registers.setFlags((sum & 0xFF) == 0, false, (a & 15) + (v & 15) + carry > 15, sum > 0xFF);
        }

        private void subtract(int v, int carry, boolean keep) {
            int a = registers.a();
            int rest = a - v - carry;
            if (keep) {
                registers.setA(rest);
            }
            registers.setFlags((rest & 0xFF) == 0, true, (a & 15) - (v & 15) - carry < 0, rest < 0);
        }

        private void putLogic(int v, boolean halfCarry) {
            registers.setA(v);
            registers.setFlags(v == 0, false, halfCarry, false);
        }

        int increment(int v) {
            int next = (v + 1) & 0xFF;
            registers.setFlags(next == 0, false, (next & 15) == 0, registers.flag(CARRY));
            return next;
        }

        int decrement(int v) {
            int next = (v - 1) & 0xFF;
            registers.setFlags(next == 0, true, (next & 15) == 15, registers.flag(CARRY));
            return next;
        }

        void addToHl(int v) {
            int hl = registers.word(HL);
            registers.setWord(HL, hl + v);
            boolean halfCarry = (hl & 0xFFF) + (v & 0xFFF) > 0xFFF;
            registers.setFlags(registers.flag(ZERO), false, halfCarry, hl + v > 0xFFFF);
        }

        int spPlus(int distance) {
            int sp = registers.word(SP);
            registers.setFlags(false, false, (sp & 15) + (distance & 15) > 15, (sp & 0xFF) + distance > 0xFF);
            return sp + (byte) distance;
        }

        /** RLCA RRCA RLA RRA DAA CPL SCF CCF are 0 to 7. */
        void changeA(int kind) {
            boolean zero = registers.flag(ZERO);
            switch (kind) {
                case 4:
                    adjustDecimal();
                    break;
                case 5:
                    registers.setA(~registers.a());
                    registers.setFlags(zero, true, true, registers.flag(CARRY));
                    break;
                case 6:
                    registers.setFlags(zero, false, false, true);
                    break;
                case 7:
                    registers.setFlags(zero, false, false, !registers.flag(CARRY));
                    break;
                default:
                    registers.setA(shift(kind, registers.a()));
                    registers.setFlags(false, false, false, registers.flag(CARRY));
            }
        }

        private void adjustDecimal() {
            int a = registers.a();
            boolean negative = registers.flag(NEGATIVE);
            boolean lowOff = registers.flag(HALF_CARRY) || (!negative && (a & 15) > 9);
            boolean highOff = registers.flag(CARRY) || (!negative && a > 0x99);
            int by = (lowOff ? 6 : 0) + (highOff ? 0x60 : 0);
            registers.setA(negative ? a - by : a + by);
            registers.setFlags(registers.a() == 0, negative, false, highOff);
        }

        /** RLC RRC RL RR SLA SRA SWAP SRL are 0 to 7. */
        int shift(int kind, int v) {
            int carry = registers.flag(CARRY) ? 1 : 0;
            int shifted;
            switch (kind) {
                case 0:
                    shifted = (v << 1) | (v >> 7);
                    break;
                case 1:
                    shifted = (v >> 1) | (v << 7);
                    break;
                case 2:
                    shifted = (v << 1) | carry;
                    break;
                case 3:
                    shifted = (v >> 1) | (carry << 7);
                    break;
                case 4:
                    shifted = v << 1;
                    break;
                case 5:
                    shifted = (v >> 1) | (v & 0x80);
                    break;
                case 6:
                    shifted = (v << 4) | (v >> 4);
                    break;
                default:
                    shifted = v >> 1;
            }
            shifted = shifted & 0xFF;
            registers.setFlags(shifted == 0, false, false, carryOfShift(kind, v));
            return shifted;
        }

        /** Even kinds go left, odd ones right; SWAP, which loses no bit, is even. */
        private static boolean carryOfShift(int kind, int v) {
            if (kind == 6) {
                return false;
            }
            return (v & ((kind & 1) == 0 ? 0x80 : 1)) != 0;
        }

        void testBit(int bit, int v) {
            registers.setFlags(((v >> bit) & 1) == 0, false, true, registers.flag(CARRY));
        }
    }
}
