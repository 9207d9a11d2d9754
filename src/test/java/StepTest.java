/** Promise 5: what instructions do, by answers written out here; and what is no instruction. */
final class StepTest {
    private static final int AF = 0x1200;

    public static void main(String[] args) {
        flagsOfSums();
        flagsOfWords();
        decimals();
        shifts();
        cycles();
        wraps();
        writesAndPushes();
        noInstructions();
        Check.end();
    }

    /** AF, then BC, behind one instruction that began with these. */
    private static void one(String what, String bytes, int af, int bc, int wantAf, int wantBc) {
        GameCore core = Check.program(0xC000, bytes);
        core.set(0, af);
        core.set(1, bc);
        Check.due(what + ": step()", core.step(), 0);
        Check.due(what + ": AF", core.reg(0), wantAf);
        Check.due(what + ": BC", core.reg(1), wantBc);
    }

    private static void flagsOfSums() {
        one("ADD A,B", "80", 0x3AF0, 0xC600, 0x00B0, 0xC600);
        one("ADD A,d8 without carry", "C6 01", 0x0EF0, 0, 0x0F00, 0);
        one("ADC A,B with carry", "88", 0xE110, 0x0F00, 0xF120, 0x0F00);
        one("ADC A,d8, carry alone overflows", "CE FF", 0x0010, 0, 0x00B0, 0);
        one("ADC A,d8 without carry", "CE FF", 0x0000, 0, 0xFF00, 0);
        one("SUB A,B to zero", "90", 0x3E00, 0x3E00, 0x00C0, 0x3E00);
        one("SUB A,d8 with half borrow", "D6 0F", 0x3E00, 0, 0x2F60, 0);
        one("SUB A,d8 with borrow", "D6 40", 0x3E00, 0, 0xFE50, 0);
        one("SBC A,d8 with carry", "DE 3A", 0x3B10, 0, 0x00C0, 0);
        one("SBC A,d8, carry alone borrows", "DE FF", 0x0010, 0, 0x00F0, 0);
        one("AND", "E6 38", 0x5AF0, 0, 0x1820, 0);
        one("AND to zero", "E6 00", 0x5A10, 0, 0x00A0, 0);
        one("XOR A,A", "AF", 0xFFF0, 0, 0x0080, 0);
        one("OR", "F6 0F", 0x5AF0, 0, 0x5F00, 0);
        one("CP leaves A", "FE 3C", 0x3C00, 0, 0x3CC0, 0);
        one("CP with borrow", "FE 40", 0x3C00, 0, 0x3C50, 0);
        one("INC B to zero, C stays", "04", 0x0010, 0xFF00, 0x00B0, 0);
        one("INC B, no C by it", "04", 0x0000, 0xFF00, 0x00A0, 0);
        one("DEC B to 255", "05", 0x0010, 0, 0x0070, 0xFF00);
        one("DEC B to zero", "05", 0x0000, 0x0100, 0x00C0, 0);
        one("CPL", "2F", 0x3590, 0, 0xCAF0, 0);
        one("SCF", "37", 0x01E0, 0, 0x0190, 0);
        one("CCF on", "3F", 0x01E0, 0, 0x0190, 0);
        one("CCF off", "3F", 0x01F0, 0, 0x0180, 0);
    }

    private static void flagsOfWords() {
        one("INC BC has no flags", "03", AF | 0xF0, 0xFFFF, AF | 0xF0, 0);
        one("DEC BC has no flags", "0B", AF, 0, AF, 0xFFFF);
        hl("ADD HL,BC: H from bit 11", "09", 0x00C0, 0x0FFF, 1, 0x1000, 0x00A0);
        hl("ADD HL,BC: C from bit 15", "09", 0x0000, 0x8000, 0x8000, 0, 0x0010);
        hl("ADD HL,BC: no H from bit 7", "09", 0x0080, 0x00FF, 1, 0x0100, 0x0080);
        hl("ADD HL,HL", "29", 0x00F0, 0x8A23, 0, 0x1446, 0x00B0);
        sp("ADD SP,e8 up", "E8 08", 0xFFF8, 0, 0x0000, 0x0030);
        sp("ADD SP,e8 down", "E8 FF", 0x0001, 0, 0x0000, 0x0030);
        sp("ADD SP,e8 below 0", "E8 FF", 0x0000, 0, 0xFFFF, 0x0000);
        sp("ADD SP,e8 half alone", "E8 01", 0x000F, 0, 0x0010, 0x0020);
        sp("ADD SP,e8 carry alone", "E8 10", 0x00F0, 0, 0x0100, 0x0010);
        sp("LD HL,SP+e8", "F8 02", 0xFFF8, 0xFFFA, 0xFFF8, 0x0000);
        sp("LD HL,SP+e8 down", "F8 80", 0x1234, 0x11B4, 0x1234, 0x0000);
    }

    private static void hl(String what, String bytes, int af, int hl, int bc, int wantHl, int wantAf) {
        GameCore core = Check.program(0xC000, bytes);
        core.set(0, af);
        core.set(1, bc);
        core.set(3, hl);
        core.step();
        Check.due(what + ": HL", core.reg(3), wantHl);
        Check.due(what + ": AF", core.reg(0), wantAf);
    }

    private static void sp(String what, String bytes, int sp, int wantHl, int wantSp, int wantAf) {
        GameCore core = Check.program(0xC000, bytes);
        core.set(0, 0x00C0);
        core.set(4, sp);
        core.step();
        Check.due(what + ": HL", core.reg(3), wantHl);
        Check.due(what + ": SP", core.reg(4), wantSp);
        Check.due(what + ": AF", core.reg(0), wantAf);
    }

    private static void decimals() {
        one("DAA nothing", "27", 0x4500, 0, 0x4500, 0);
        one("DAA low digit", "27", 0x7D00, 0, 0x8300, 0);
        one("DAA by H", "27", 0x4120, 0, 0x4700, 0);
        one("DAA above 153", "27", 0x9A00, 0, 0x0090, 0);
        one("DAA of 153", "27", 0x9900, 0, 0x9900, 0);
        one("DAA by C", "27", 0x2010, 0, 0x8010, 0);
        one("DAA of both digits", "27", 0x9B00, 0, 0x0110, 0);
        one("DAA: A is above 153 only by the 6 more", "27", 0x9520, 0, 0x9B00, 0);
        one("DAA with N nothing", "27", 0x9A40, 0, 0x9A40, 0);
        one("DAA with N and H", "27", 0x4B60, 0, 0x4540, 0);
        one("DAA with N and C", "27", 0xE050, 0, 0x8050, 0);
        one("DAA with N, H, C to zero", "27", 0x6670, 0, 0x00D0, 0);
    }

    private static void shifts() {
        one("RLCA has no Z", "07", 0x00F0, 0, 0x0000, 0);
        one("RLCA", "07", 0x8500, 0, 0x0B10, 0);
        one("RRCA", "0F", 0x3B00, 0, 0x9D10, 0);
        one("RLA", "17", 0x9500 | 0x10, 0, 0x2B10, 0);
        one("RLA to zero has no Z", "17", 0x8000, 0, 0x0010, 0);
        one("RRA", "1F", 0x8100, 0, 0x4010, 0);
        one("RLC B", "CB 00", 0x0000, 0x8500, 0x0010, 0x0B00);
        one("RLC B of 0 has Z", "CB 00", 0x0070, 0, 0x0080, 0);
        one("RRC C", "CB 09", 0x0000, 0x0001, 0x0010, 0x0080);
        one("RL B", "CB 10", 0x0010, 0x4000, 0x0000, 0x8100);
        one("RR B", "CB 18", 0x0010, 0x0100, 0x0010, 0x8000);
        one("SLA B", "CB 20", 0x0010, 0x8000, 0x0090, 0x0000);
        one("SRA B", "CB 28", 0x0000, 0x8A00, 0x0000, 0xC500);
        one("SWAP B has no C", "CB 30", 0x0010, 0xF100, 0x0000, 0x1F00);
        one("SRL B", "CB 38", 0x0010, 0x0100, 0x0090, 0x0000);
        one("BIT 7,B on", "CB 78", 0x00D0, 0x8000, 0x0030, 0x8000);
        one("BIT 0,B off", "CB 40", 0x0040, 0xFE00, 0x00A0, 0xFE00);
        one("RES 3,C", "CB 99", 0x00F0, 0x00FF, 0x00F0, 0x00F7);
        one("SET 5,C", "CB E9", 0x00F0, 0x0000, 0x00F0, 0x0020);
    }

    /** M-cycles and PC behind one instruction at 1000 with the flags given. */
    private static void costs(String bytes, int flags, int cycles, int pc) {
        GameCore core = Check.program(1000, bytes);
        core.set(0, flags);
        core.set(3, 0xC100);
        core.set(4, 0xD000);
        core.poke(0xD000, 0xCD);
        core.poke(0xD001, 0xAB);
        core.step();
        Check.due(bytes + " with flags " + flags + ": M-cycles", core.mcycles(), cycles);
        Check.due(bytes + " with flags " + flags + ": PC", core.reg(5), pc);
    }

    private static void cycles() {
        int[] conditionOff = {0x80, 0x00, 0x10, 0x00};
        int[] conditionOn = {0x00, 0x80, 0x00, 0x10};
        for (int i = 0; i < 4; i++) {
            String row = Integer.toHexString(0x20 + 8 * i);
            costs(row + " 10", conditionOn[i], 3, 1018);
            costs(row + " 80", conditionOn[i], 3, 874);
            costs(row + " 10", conditionOff[i], 2, 1002);
            costs(Integer.toHexString(0xC2 + 8 * i) + " 34 12", conditionOn[i], 4, 0x1234);
            costs(Integer.toHexString(0xC2 + 8 * i) + " 34 12", conditionOff[i], 3, 1003);
            costs(Integer.toHexString(0xC4 + 8 * i) + " 34 12", conditionOn[i], 6, 0x1234);
            costs(Integer.toHexString(0xC4 + 8 * i) + " 34 12", conditionOff[i], 3, 1003);
            costs(Integer.toHexString(0xC0 + 8 * i), conditionOn[i], 5, 0xABCD);
            costs(Integer.toHexString(0xC0 + 8 * i), conditionOff[i], 2, 1001);
        }
        costs("18 10", 0, 3, 1018);
        costs("C3 34 12", 0, 4, 0x1234);
        costs("E9", 0, 1, 0xC100);
        costs("CD 34 12", 0, 6, 0x1234);
        costs("C9", 0, 4, 0xABCD);
        costs("D9", 0, 4, 0xABCD);
        for (int i = 0; i < 8; i++) {
            costs(Integer.toHexString(0xC7 + 8 * i), 0, 4, 8 * i);
        }
        String[] ones = {"00", "07", "27", "2F", "37", "3F", "04", "0D", "41", "7F", "80", "BF", "76", "F3", "FB"};
        for (String bytes : ones) {
            costs(bytes, 0, 1, 1001);
        }
        String[] twos = {"02", "1A", "22", "3A", "03", "3B", "09", "39", "46", "77", "86", "BE", "E2", "F2", "F9"};
        for (String bytes : twos) {
            costs(bytes, 0, 2, 1001);
        }
        String[] twosOfTwo = {"06 01", "3E 01", "C6 01", "FE 01", "CB 00", "CB 7F", "CB 80", "CB FF"};
        for (String bytes : twosOfTwo) {
            costs(bytes, 0, 2, 1002);
        }
        costs("34", 0, 3, 1001);
        costs("35", 0, 3, 1001);
        costs("C1", 0, 3, 1001);
        costs("C5", 0, 4, 1001);
        costs("36 01", 0, 3, 1002);
        costs("E0 80", 0, 3, 1002);
        costs("F0 80", 0, 3, 1002);
        costs("F8 01", 0, 3, 1002);
        costs("E8 01", 0, 4, 1002);
        costs("CB 46", 0, 3, 1002);
        costs("CB 06", 0, 4, 1002);
        costs("CB 86", 0, 4, 1002);
        costs("CB C6", 0, 4, 1002);
        costs("01 34 12", 0, 3, 1003);
        costs("31 34 12", 0, 3, 1003);
        costs("08 34 12", 0, 5, 1003);
        costs("EA 34 12", 0, 4, 1003);
        costs("FA 34 12", 0, 4, 1003);
    }

    private static void wraps() {
        GameCore core = new GameCore();
        Check.put(core, 0xFFFE, "01 34 12");
        core.set(5, 0xFFFE);
        core.step();
        Check.due("LD BC,d16 around the end", core.reg(1), 0x1234);
        Check.due("PC behind it", core.reg(5), 1);

        core = new GameCore();
        core.poke(0xFFFF, 0x00);
        core.set(5, 0xFFFF);
        core.step();
        Check.due("PC behind 65535", core.reg(5), 0);

        core = Check.program(0xC000, "C5 D1");
        core.set(1, 0xABCD);
        core.set(4, 1);
        core.step();
        Check.due("PUSH around the end: SP", core.reg(4), 0xFFFF);
        Check.due("PUSH around the end: high byte", core.peek(0), 0xAB);
        Check.due("PUSH around the end: low byte", core.peek(0xFFFF), 0xCD);
        core.step();
        Check.due("POP around the end: DE", core.reg(2), 0xABCD);
        Check.due("POP around the end: SP", core.reg(4), 1);

        core = Check.program(0xC000, "22 32 08 FF FF");
        core.set(0, 0x5500);
        core.set(3, 0xFFFF);
        core.set(4, 0x1234);
        core.step();
        Check.due("HL+ around the end", core.reg(3), 0);
        Check.due("LD (HL+),A at 65535", core.peek(0xFFFF), 0x55);
        core.step();
        Check.due("HL- around the end", core.reg(3), 0xFFFF);
        Check.due("LD (HL-),A at 0", core.peek(0), 0x55);
        core.step();
        Check.due("LD (a16),SP at 65535: low byte", core.peek(0xFFFF), 0x34);
        Check.due("LD (a16),SP at 65535: high byte", core.peek(0), 0x12);

        core = Check.program(5, "18 80");
        core.step();
        Check.due("JR below 0", core.reg(5), 65536 + 7 - 128);
    }

    private static void writesAndPushes() {
        GameCore core = Check.program(0xC000, "CD 34 12");
        core.set(4, 0xD000);
        core.step();
        Check.due("CALL pushes the high byte first", core.peek(0xCFFF), 0xC0);
        Check.due("CALL pushes the low byte", core.peek(0xCFFE), 0x03);
        Check.due("SP behind CALL", core.reg(4), 0xCFFE);

        core = Check.program(0xC000, "F1 F5");
        core.poke(0xD000, 0xFF);
        core.poke(0xD001, 0x12);
        core.set(4, 0xD000);
        core.step();
        Check.due("POP AF: F's low bits are 0", core.reg(0), 0x12F0);
        core.step();
        Check.due("PUSH AF: F", core.peek(0xD000), 0xF0);

        core = Check.program(0xC000, "E0 80 F2 FA 00 D0");
        core.set(0, 0x7700);
        core.set(1, 0x0081);
        core.poke(0xFF81, 0x66);
        core.poke(0xD000, 0x55);
        core.step();
        Check.due("LDH (a8),A", core.peek(0xFF80), 0x77);
        core.step();
        Check.due("LD A,(FF00+C)", core.reg(0), 0x6600);
        core.step();
        Check.due("LD A,(a16)", core.reg(0), 0x5500);

        core = Check.program(0xC000, "34");
        core.set(3, 0xFF04);
        core.poke(0xFF04, 0xFF);
        core.step();
        Check.due("INC (HL) at FF04: flags of the sum", core.reg(0), 0x00A0);
        Check.due("INC (HL) at FF04", core.peek(0xFF04), 0);
    }

    private static void noInstructions() {
        int[] none = {0x10, 0xD3, 0xDB, 0xDD, 0xE3, 0xE4, 0xEB, 0xEC, 0xED, 0xF4, 0xFC, 0xFD};
        for (int opcode : none) {
            GameCore core = Check.program(0xC000, Integer.toHexString(opcode) + " 00");
            core.set(0, 0x1230);
            core.set(4, 0xD000);
            core.poke(0xFF07, 5);
            for (int i = 0; i < 5; i++) {
                Check.due("step() at " + opcode, core.step(), 2);
            }
            Check.due("AF stays at " + opcode, core.reg(0), 0x1230);
            Check.due("SP stays at " + opcode, core.reg(4), 0xD000);
            Check.due("PC stays at " + opcode, core.reg(5), 0xC000);
            Check.due("mcycles stay at " + opcode, core.mcycles(), 0);
            Check.due("COUNTER stays at " + opcode, core.look(4), 0);
            Check.due("FF05 stays at " + opcode, core.peek(0xFF05), 0);
        }
        int refused = 0;
        for (int opcode = 0; opcode < 256; opcode++) {
            GameCore core = Check.program(0xC000, Integer.toHexString(opcode));
            refused += core.step() == 2 ? 1 : 0;
        }
        Check.due("opcodes that give 2", refused, none.length);
    }
}
