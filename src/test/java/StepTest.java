/** Promise 5: what instructions do, by answers written out here; and what is no instruction. */
final class StepTest {
    private static final int AF = 0x1200;

    public static void main(String[] args) {
        flagsOfSums();
        flagsOfWords();
        decimals();
        shifts();
        wraps();
        writesAndPushes();
        noInstructions();
        edgesOfSums();
        edgesOfDecimals();
        edgesOfShifts();
        edgesOfWordSums();
        bytesAtHl();
        popOfFlags();
        bitsThatAreSoAlready();
        halvesApart();
        loadsByPairs();
        Check.end();
    }

    /** AF, then BC, behind one instruction that began with these. */
    private static void one(String what, String bytes, int af, int bc, int wantAf, int wantBc) {
        GameCore core = Check.program(0xC000, bytes);
        core.set(0, af);
        core.set(1, bc);
        Check.due(what + ": step()", core.step(), 0);
        Check.due(what + ": AF", core.reg(0), wantAf);
        Check.due(what + ": BC", core.reg(1), wantBc);
    }

    private static void flagsOfSums() {
        one("ADD A,B", "80", 0x3AF0, 0xC600, 0x00B0, 0xC600);
        one("ADD A,d8 without carry", "C6 01", 0x0EF0, 0, 0x0F00, 0);
        one("ADC A,B with carry", "88", 0xE110, 0x0F00, 0xF120, 0x0F00);
        one("ADC A,d8, carry alone overflows", "CE FF", 0x0010, 0, 0x00B0, 0);
        one("ADC A,d8 without carry", "CE FF", 0x0000, 0, 0xFF00, 0);
        one("SUB A,B to zero", "90", 0x3E00, 0x3E00, 0x00C0, 0x3E00);
        one("SUB A,d8 with half borrow", "D6 0F", 0x3E00, 0, 0x2F60, 0);
        one("SUB A,d8 with borrow", "D6 40", 0x3E00, 0, 0xFE50, 0);
        one("SBC A,d8 with carry", "DE 3A", 0x3B10, 0, 0x00C0, 0);
        one("SBC A,d8, carry alone borrows", "DE FF", 0x0010, 0, 0x00F0, 0);
        one("AND", "E6 38", 0x5AF0, 0, 0x1820, 0);
        one("AND to zero", "E6 00", 0x5A10, 0, 0x00A0, 0);
        one("XOR A,A", "AF", 0xFFF0, 0, 0x0080, 0);
        one("OR", "F6 0F", 0x5AF0, 0, 0x5F00, 0);
        one("CP leaves A", "FE 3C", 0x3C00, 0, 0x3CC0, 0);
        one("CP with borrow", "FE 40", 0x3C00, 0, 0x3C50, 0);
        one("INC B to zero, C stays", "04", 0x0010, 0xFF00, 0x00B0, 0);
        one("INC B, no C by it", "04", 0x0000, 0xFF00, 0x00A0, 0);
        one("DEC B to 255", "05", 0x0010, 0, 0x0070, 0xFF00);
        one("DEC B to zero", "05", 0x0000, 0x0100, 0x00C0, 0);
        one("CPL", "2F", 0x3590, 0, 0xCAF0, 0);
        one("SCF", "37", 0x01E0, 0, 0x0190, 0);
        one("CCF on", "3F", 0x01E0, 0, 0x0190, 0);
        one("CCF off", "3F", 0x01F0, 0, 0x0180, 0);
    }

    private static void flagsOfWords() {
        one("INC BC has no flags", "03", AF | 0xF0, 0xFFFF, AF | 0xF0, 0);
        one("DEC BC has no flags", "0B", AF, 0, AF, 0xFFFF);
        hl("ADD HL,BC: H from bit 11", "09", 0x00C0, 0x0FFF, 1, 0x1000, 0x00A0);
        hl("ADD HL,BC: C from bit 15", "09", 0x0000, 0x8000, 0x8000, 0, 0x0010);
        hl("ADD HL,BC: no H from bit 7", "09", 0x0080, 0x00FF, 1, 0x0100, 0x0080);
        hl("ADD HL,HL", "29", 0x00F0, 0x8A23, 0, 0x1446, 0x00B0);
        sp("ADD SP,e8 up", "E8 08", 0xFFF8, 0, 0x0000, 0x0030);
        sp("ADD SP,e8 down", "E8 FF", 0x0001, 0, 0x0000, 0x0030);
        sp("ADD SP,e8 below 0", "E8 FF", 0x0000, 0, 0xFFFF, 0x0000);
        sp("ADD SP,e8 half alone", "E8 01", 0x000F, 0, 0x0010, 0x0020);
        sp("ADD SP,e8 carry alone", "E8 10", 0x00F0, 0, 0x0100, 0x0010);
        sp("LD HL,SP+e8", "F8 02", 0xFFF8, 0xFFFA, 0xFFF8, 0x0000);
        sp("LD HL,SP+e8 down", "F8 80", 0x1234, 0x11B4, 0x1234, 0x0000);
    }

    private static void hl(String what, String bytes, int af, int hl, int bc, int wantHl, int wantAf) {
        GameCore core = Check.program(0xC000, bytes);
        core.set(0, af);
        core.set(1, bc);
        core.set(3, hl);
        core.step();
        Check.due(what + ": HL", core.reg(3), wantHl);
        Check.due(what + ": AF", core.reg(0), wantAf);
    }

    private static void sp(String what, String bytes, int sp, int wantHl, int wantSp, int wantAf) {
        GameCore core = Check.program(0xC000, bytes);
        core.set(0, 0x00C0);
        core.set(4, sp);
        core.step();
        Check.due(what + ": HL", core.reg(3), wantHl);
        Check.due(what + ": SP", core.reg(4), wantSp);
        Check.due(what + ": AF", core.reg(0), wantAf);
    }

    private static void decimals() {
        one("DAA nothing", "27", 0x4500, 0, 0x4500, 0);
        one("DAA low digit", "27", 0x7D00, 0, 0x8300, 0);
        one("DAA by H", "27", 0x4120, 0, 0x4700, 0);
        one("DAA above 153", "27", 0x9A00, 0, 0x0090, 0);
        one("DAA of 153", "27", 0x9900, 0, 0x9900, 0);
        one("DAA by C", "27", 0x2010, 0, 0x8010, 0);
        one("DAA of both digits", "27", 0x9B00, 0, 0x0110, 0);
        one("DAA: A is above 153 only by the 6 more", "27", 0x9520, 0, 0x9B00, 0);
        one("DAA with N nothing", "27", 0x9A40, 0, 0x9A40, 0);
        one("DAA with N and H", "27", 0x4B60, 0, 0x4540, 0);
        one("DAA with N and C", "27", 0xE050, 0, 0x8050, 0);
        one("DAA with N, H, C to zero", "27", 0x6670, 0, 0x00D0, 0);
    }

    private static void shifts() {
        one("RLCA has no Z", "07", 0x00F0, 0, 0x0000, 0);
        one("RLCA", "07", 0x8500, 0, 0x0B10, 0);
        one("RRCA", "0F", 0x3B00, 0, 0x9D10, 0);
        one("RLA", "17", 0x9500 | 0x10, 0, 0x2B10, 0);
        one("RLA to zero has no Z", "17", 0x8000, 0, 0x0010, 0);
        one("RRA", "1F", 0x8100, 0, 0x4010, 0);
        one("RLC B", "CB 00", 0x0000, 0x8500, 0x0010, 0x0B00);
        one("RLC B of 0 has Z", "CB 00", 0x0070, 0, 0x0080, 0);
        one("RRC C", "CB 09", 0x0000, 0x0001, 0x0010, 0x0080);
        one("RL B", "CB 10", 0x0010, 0x4000, 0x0000, 0x8100);
        one("RR B", "CB 18", 0x0010, 0x0100, 0x0010, 0x8000);
        one("SLA B", "CB 20", 0x0010, 0x8000, 0x0090, 0x0000);
        one("SRA B", "CB 28", 0x0000, 0x8A00, 0x0000, 0xC500);
        one("SWAP B has no C", "CB 30", 0x0010, 0xF100, 0x0000, 0x1F00);
        one("SRL B", "CB 38", 0x0010, 0x0100, 0x0090, 0x0000);
        one("BIT 7,B on", "CB 78", 0x00D0, 0x8000, 0x0030, 0x8000);
        one("BIT 0,B off", "CB 40", 0x0040, 0xFE00, 0x00A0, 0xFE00);
        one("RES 3,C", "CB 99", 0x00F0, 0x00FF, 0x00F0, 0x00F7);
        one("SET 5,C", "CB E9", 0x00F0, 0x0000, 0x00F0, 0x0020);
    }

    private static void wraps() {
        GameCore core = new GameCore();
        Check.put(core, 0xFFFE, "01 34 12");
        core.set(5, 0xFFFE);
        core.step();
        Check.due("LD BC,d16 around the end", core.reg(1), 0x1234);
        Check.due("PC behind it", core.reg(5), 1);

        core = new GameCore();
        core.poke(0xFFFF, 0x00);
        core.set(5, 0xFFFF);
        core.step();
        Check.due("PC behind 65535", core.reg(5), 0);

        core = Check.program(0xC000, "C5 D1");
        core.set(1, 0xABCD);
        core.set(4, 1);
        core.step();
        Check.due("PUSH around the end: SP", core.reg(4), 0xFFFF);
        Check.due("PUSH around the end: high byte", core.peek(0), 0xAB);
        Check.due("PUSH around the end: low byte", core.peek(0xFFFF), 0xCD);
        core.step();
        Check.due("POP around the end: DE", core.reg(2), 0xABCD);
        Check.due("POP around the end: SP", core.reg(4), 1);

        core = Check.program(0xC000, "22 32 08 FF FF");
        core.set(0, 0x5500);
        core.set(3, 0xFFFF);
        core.set(4, 0x1234);
        core.step();
        Check.due("HL+ around the end", core.reg(3), 0);
        Check.due("LD (HL+),A at 65535", core.peek(0xFFFF), 0x55);
        core.step();
        Check.due("HL- around the end", core.reg(3), 0xFFFF);
        Check.due("LD (HL-),A at 0", core.peek(0), 0x55);
        core.step();
        Check.due("LD (a16),SP at 65535: low byte", core.peek(0xFFFF), 0x34);
        Check.due("LD (a16),SP at 65535: high byte", core.peek(0), 0x12);

        core = Check.program(5, "18 80");
        core.step();
        Check.due("JR below 0", core.reg(5), 65536 + 7 - 128);
    }

    private static void writesAndPushes() {
        GameCore core = Check.program(0xC000, "CD 34 12");
        core.set(4, 0xD000);
        core.step();
        Check.due("CALL pushes the high byte first", core.peek(0xCFFF), 0xC0);
        Check.due("CALL pushes the low byte", core.peek(0xCFFE), 0x03);
        Check.due("SP behind CALL", core.reg(4), 0xCFFE);

        core = Check.program(0xC000, "F1 F5");
        core.poke(0xD000, 0xFF);
        core.poke(0xD001, 0x12);
        core.set(4, 0xD000);
        core.step();
        Check.due("POP AF: F's low bits are 0", core.reg(0), 0x12F0);
        core.step();
        Check.due("PUSH AF: F", core.peek(0xD000), 0xF0);

        core = Check.program(0xC000, "E0 80 F2 FA 00 D0");
        core.set(0, 0x7700);
        core.set(1, 0x0081);
        core.poke(0xFF81, 0x66);
        core.poke(0xD000, 0x55);
        core.step();
        Check.due("LDH (a8),A", core.peek(0xFF80), 0x77);
        core.step();
        Check.due("LD A,(FF00+C)", core.reg(0), 0x6600);
        core.step();
        Check.due("LD A,(a16)", core.reg(0), 0x5500);

        core = Check.program(0xC000, "34");
        core.set(3, 0xFF04);
        core.poke(0xFF04, 0xFF);
        core.step();
        Check.due("INC (HL) at FF04: flags of the sum", core.reg(0), 0x00A0);
        Check.due("INC (HL) at FF04", core.peek(0xFF04), 0);
    }

    private static void noInstructions() {
        int[] none = {0x10, 0xD3, 0xDB, 0xDD, 0xE3, 0xE4, 0xEB, 0xEC, 0xED, 0xF4, 0xFC, 0xFD};
        for (int opcode : none) {
            GameCore core = Check.program(0xC000, Integer.toHexString(opcode) + " 00");
            core.set(0, 0x1230);
            core.set(4, 0xD000);
            core.poke(0xFF07, 5);
            for (int i = 0; i < 5; i++) {
                Check.due("step() at " + opcode, core.step(), 2);
            }
            Check.due("AF stays at " + opcode, core.reg(0), 0x1230);
            Check.due("SP stays at " + opcode, core.reg(4), 0xD000);
            Check.due("PC stays at " + opcode, core.reg(5), 0xC000);
            Check.due("mcycles stay at " + opcode, core.mcycles(), 0);
            Check.due("COUNTER stays at " + opcode, core.look(4), 0);
            Check.due("FF05 stays at " + opcode, core.peek(0xFF05), 0);
        }
        int refused = 0;
        for (int opcode = 0; opcode < 256; opcode++) {
            GameCore core = Check.program(0xC000, Integer.toHexString(opcode));
            refused += core.step() == 2 ? 1 : 0;
        }
        Check.due("opcodes that give 2", refused, none.length);
    }

    /** H from bit 3 and C from bit 7, at the last number without and the first with them. */
    private static void edgesOfSums() {
        one("ADD to 15", "C6 07", 0x08F0, 0, 0x0F00, 0);
        one("ADD to 16", "C6 08", 0x0800, 0, 0x1020, 0);
        one("ADD to 255", "C6 7F", 0x80F0, 0, 0xFF00, 0);
        one("ADD to 256", "C6 80", 0x8000, 0, 0x0090, 0);
        one("ADD of 255 and 255", "C6 FF", 0xFF00, 0, 0xFE30, 0);
        one("ADC of 255, 255 and C", "CE FF", 0xFF10, 0, 0xFF30, 0);
        one("ADC: C alone makes H", "CE 00", 0x0F10, 0, 0x1020, 0);
        one("ADC: C alone makes both", "CE 00", 0xFF10, 0, 0x00B0, 0);
        one("ADD to 1 has no Z", "C6 01", 0x0080, 0, 0x0100, 0);
        one("ADD to 257 has no Z", "C6 02", 0xFF00, 0, 0x0130, 0);
        one("SUB to 1 has no Z", "D6 01", 0x0280, 0, 0x0140, 0);
        one("ADD leaves the C that was out", "C6 00", 0x0010, 0, 0x0080, 0);
        one("SUB of itself", "97", 0xFF10, 0, 0x00C0, 0);
        one("SUB of one more", "D6 01", 0x0000, 0, 0xFF70, 0);
        one("SUB leaves the C that was out", "D6 01", 0x0210, 0, 0x0140, 0);
        one("SUB at the low four bits", "D6 01", 0x1000, 0, 0x0F60, 0);
        one("SBC: C alone makes H", "DE 00", 0x1010, 0, 0x0F60, 0);
        one("SBC: C alone makes both", "DE 00", 0x0010, 0, 0xFF70, 0);
        one("SBC of itself with C", "9F", 0x5510, 0, 0xFF70, 0);
        one("SBC of itself without C", "9F", 0x5500, 0, 0x00C0, 0);
        one("SBC 0 - 255 - C", "DE FF", 0x0010, 0, 0x00F0, 0);
        one("CP leaves the C that was out", "FE 01", 0x0210, 0, 0x0240, 0);
        one("CP of itself", "BF", 0x7710, 0, 0x77C0, 0);
        one("AND to what is not 0", "E6 80", 0xFFD0, 0, 0x8020, 0);
        one("XOR to what is not 0", "EE 01", 0xFFF0, 0, 0xFE00, 0);
        one("OR of 0 and 0", "F6 00", 0x0070, 0, 0x0080, 0);
        one("INC B to 16: H", "04", 0x0000, 0x0F00, 0x0020, 0x1000);
        one("INC B to 15: no H", "04", 0x0070, 0x0E00, 0x0010, 0x0F00);
        one("DEC B from 16: H", "05", 0x0000, 0x1000, 0x0060, 0x0F00);
        one("DEC B from 17: no H", "05", 0x00B0, 0x1100, 0x0050, 0x1000);
        one("INC C leaves B", "0C", 0x0000, 0x12FF, 0x00A0, 0x1200);
        one("DEC C leaves B", "0D", 0x0000, 0x1200, 0x0060, 0x12FF);
        one("CPL of 255", "2F", 0xFF00, 0, 0x0060, 0);
        one("SCF with Z off", "37", 0x0160, 0, 0x0110, 0);
        one("CCF with Z off", "3F", 0x0170, 0, 0x0100, 0);
    }

    /** "above 9", "above 153", "A (as it was)", and what wraps around 256 and 0. */
    private static void edgesOfDecimals() {
        one("DAA: low four bits of 9", "27", 0x0900, 0, 0x0900, 0);
        one("DAA: low four bits of 10", "27", 0x0A00, 0, 0x1000, 0);
        one("DAA of 153", "27", 0x9900, 0, 0x9900, 0);
        one("DAA of 154", "27", 0x9A00, 0, 0x0090, 0);
        one("DAA of 160", "27", 0xA000, 0, 0x0090, 0);
        one("DAA of 144 with H", "27", 0x9020, 0, 0x9600, 0);
        one("DAA of 153 with H", "27", 0x9920, 0, 0x9F00, 0);
        one("DAA of 143 by its low bits", "27", 0x8F00, 0, 0x9500, 0);
        one("DAA of 255", "27", 0xFF00, 0, 0x6510, 0);
        one("DAA of 0 with H and C", "27", 0x0030, 0, 0x6610, 0);
        one("DAA of 0", "27", 0x0000, 0, 0x0080, 0);
        one("DAA: Z goes off", "27", 0x0180, 0, 0x0100, 0);
        one("DAA with N below 0 by H", "27", 0x0060, 0, 0xFA40, 0);
        one("DAA with N below 0 by C", "27", 0x0050, 0, 0xA050, 0);
        one("DAA with N below 0 by both", "27", 0x0070, 0, 0x9A50, 0);
        one("DAA with N: 10 stays", "27", 0x0A40, 0, 0x0A40, 0);
        one("DAA with N: 255 stays", "27", 0xFF40, 0, 0xFF40, 0);
        one("DAA with N to 0 by H", "27", 0x0660, 0, 0x00C0, 0);
        one("DAA with N to 0 by C", "27", 0x6050, 0, 0x00D0, 0);
    }

    /** "RLCA, RRCA, RLA, RRA: Z off; RLC and so on of the CB page: Z as it comes", "SWAP: C off". */
    private static void edgesOfShifts() {
        String[] ofA = {"07", "0F", "17", "1F"};
        for (String code : ofA) {
            one(code + " of 0", code, 0x00E0, 0, 0x0000, 0);
        }
        one("RRA of 1 to 0", "1F", 0x0180, 0, 0x0010, 0);
        for (int kind = 0; kind < 8; kind++) {
            String code = "CB " + Integer.toHexString(8 * kind);
            one(code + " of 0", code, 0x0060, 0x0000, 0x0080, 0x0000);
        }
        one("RLC B of 1", "CB 00", 0x0010, 0x0100, 0x0000, 0x0200);
        one("RRC B of 128", "CB 08", 0x0010, 0x8000, 0x0000, 0x4000);
        one("RL B: C goes in, Z off", "CB 10", 0x0090, 0x0000, 0x0000, 0x0100);
        one("RR B: C goes in, Z off", "CB 18", 0x0090, 0x0000, 0x0000, 0x8000);
        one("RL B of 128 to 0", "CB 10", 0x0000, 0x8000, 0x0090, 0x0000);
        one("RR B of 1 to 0", "CB 18", 0x0000, 0x0100, 0x0090, 0x0000);
        one("SRA B of 1 to 0", "CB 28", 0x0000, 0x0100, 0x0090, 0x0000);
        one("SRA B of 129", "CB 28", 0x0000, 0x8100, 0x0010, 0xC000);
        one("SRL B of 255", "CB 38", 0x0000, 0xFF00, 0x0010, 0x7F00);
        one("SLA B of 255", "CB 20", 0x0000, 0xFF00, 0x0010, 0xFE00);
        one("SWAP B of 15", "CB 30", 0x00F0, 0x0F00, 0x0000, 0xF000);
        for (int bit = 0; bit < 8; bit++) {
            String code = "CB " + Integer.toHexString(0x40 + 8 * bit);
            one("BIT " + bit + " alone on, C on", code, 0x00D0, 256 << bit, 0x0030, 256 << bit);
            one("BIT " + bit + " alone off, C off", code, 0x0040, 0xFF00 - (256 << bit), 0x00A0, 0xFF00 - (256 << bit));
        }
    }

    /** "H from bit 11, C from bit 15, Z stays"; "H and C as of the low byte plus e8's byte without sign". */
    private static void edgesOfWordSums() {
        hl("ADD HL to 0FFF", "09", 0x0070, 0x0FFE, 1, 0x0FFF, 0x0000);
        hl("ADD HL to 1000", "09", 0x0000, 0x0FFF, 1, 0x1000, 0x0020);
        hl("ADD HL to FFFF", "09", 0x0080, 0xFFFE, 1, 0xFFFF, 0x0080);
        hl("ADD HL to 0, Z stays off", "09", 0x0040, 0xFFFF, 1, 0x0000, 0x0030);
        hl("ADD HL to 0, Z stays on", "09", 0x0080, 0x0000, 0, 0x0000, 0x0080);
        sp("ADD SP to xx0F", "E8 01", 0x120E, 0, 0x120F, 0x0000);
        sp("ADD SP to xx10", "E8 01", 0x120F, 0, 0x1210, 0x0020);
        sp("ADD SP to xxFF", "E8 0F", 0x12F0, 0, 0x12FF, 0x0000);
        sp("ADD SP over xxFF", "E8 01", 0x12FF, 0, 0x1300, 0x0030);
        sp("ADD SP,-1: C where nothing is borrowed", "E8 FF", 0x1201, 0, 0x1200, 0x0030);
        sp("ADD SP,-1: no C where it is", "E8 FF", 0x1200, 0, 0x11FF, 0x0000);
        sp("ADD SP,-16: C without H", "E8 F0", 0x1211, 0, 0x1201, 0x0010);
        sp("ADD SP,127", "E8 7F", 0x1200, 0, 0x127F, 0x0000);
        sp("ADD SP,-128", "E8 80", 0x1200, 0, 0x1180, 0x0000);
        sp("ADD SP,-128 with C", "E8 80", 0x1280, 0, 0x1200, 0x0010);
        sp("ADD SP,0 has no Z", "E8 00", 0x0000, 0, 0x0000, 0x0000);
        sp("LD HL,SP+0 has no Z", "F8 00", 0x0000, 0, 0x0000, 0x0000);
        sp("LD HL,SP-1 with C", "F8 FF", 0x1201, 0x1200, 0x1201, 0x0030);
    }

    /** (HL) in place of a register, at the ends of memory. */
    private static void bytesAtHl() {
        for (int place : new int[] {0, 0xFFFF}) {
            GameCore core = Check.program(0xC000, "34 35 CB FE CB 46 86 CB 36 CB BE");
            core.set(3, place);
            core.poke(place, 0xFF);
            core.step();
            Check.due("INC (HL) of 255 at " + place, core.peek(place), 0);
            Check.due("its flags", core.reg(0), 0x00A0);
            core.step();
            Check.due("DEC (HL) of 0 at " + place, core.peek(place), 0xFF);
            Check.due("its flags", core.reg(0), 0x0060);
            core.poke(place, 0x02);
            core.step();
            Check.due("SET 7,(HL) at " + place, core.peek(place), 0x82);
            core.step();
            Check.due("BIT 0,(HL) at " + place, core.reg(0), 0x00A0);
            core.step();
            Check.due("ADD A,(HL) at " + place, core.reg(0), 0x8200);
            core.step();
            Check.due("SWAP (HL) at " + place, core.peek(place), 0x28);
            core.poke(place, 0xFF);
            core.step();
            Check.due("RES 7,(HL) at " + place, core.peek(place), 0x7F);
            Check.due("M-cycles at " + place, core.mcycles(), 3 + 3 + 4 + 3 + 2 + 4 + 4);
        }
    }

    /** "POP AF: F's low four bits are 0", of AF alone. */
    private static void popOfFlags() {
        for (int low = 0; low < 16; low++) {
            GameCore core = Check.program(0xC000, "F1 C1");
            core.set(4, 0xD000);
            core.feed(0xD000, low << 24 | 0x120000 | low << 8 | 0x34, 0, 0, 0);
            core.run(2);
            Check.due("POP AF of " + low, core.reg(0), 0x1200);
            Check.due("POP BC of " + low, core.reg(1), 0x3400 + low);
        }
    }

    private static void bitsThatAreSoAlready() {
        for (int bit = 0; bit < 8; bit++) {
            one("SET " + bit + " of 255", "CB " + Integer.toHexString(0xC0 + 8 * bit), 0x00F0, 0xFF55, 0x00F0, 0xFF55);
            one("RES " + bit + " of 0", "CB " + Integer.toHexString(0x80 + 8 * bit), 0x0000, 0x0055, 0x0000, 0x0055);
            one("SET " + bit + " of 0", "CB " + Integer.toHexString(0xC0 + 8 * bit), 0x0000, 0, 0x0000, 256 << bit);
            one("RES " + bit + " of 255", "CB " + Integer.toHexString(0x80 + 8 * bit), 0x00F0, 0xFF00, 0x00F0, 0xFF00 - (256 << bit));
        }
    }

    /** One half of a pair leaves the other. */
    private static void halvesApart() {
        one("LD B,d8 leaves C", "06 00", 0x0000, 0xFFFF, 0x0000, 0x00FF);
        one("LD C,d8 leaves B", "0E 00", 0x0000, 0xFFFF, 0x0000, 0xFF00);
        one("LD A,d8 leaves F", "3E 00", 0xFFF0, 0, 0x00F0, 0);
        one("LD B,C", "41", 0x0000, 0x12FF, 0x0000, 0xFFFF);
        one("LD A,B leaves F", "78", 0x00F0, 0xA500, 0xA5F0, 0xA500);
    }

    /** HL moves by (HL+) and (HL-) alone; LD SP,HL and JP HL leave it. */
    private static void loadsByPairs() {
        String[] codes = {"02", "0A", "12", "1A", "22", "2A", "32", "3A"};
        int[] places = {0xD100, 0xD100, 0xD200, 0xD200, 0xD300, 0xD300, 0xD300, 0xD300};
        int[] wantHl = {0xD300, 0xD300, 0xD300, 0xD300, 0xD301, 0xD301, 0xD2FF, 0xD2FF};
        for (int i = 0; i < codes.length; i++) {
            GameCore core = Check.program(0xC000, codes[i] + " F9 E9");
            core.set(0, 0x5500);
            core.set(1, 0xD100);
            core.set(2, 0xD200);
            core.set(3, 0xD300);
            core.poke(places[i], 0x66);
            core.step();
            boolean loads = codes[i].endsWith("A");
            Check.due(codes[i] + ": the place", core.peek(places[i]), loads ? 0x66 : 0x55);
            Check.due(codes[i] + ": A", core.reg(0), loads ? 0x6600 : 0x5500);
            Check.due(codes[i] + ": BC", core.reg(1), 0xD100);
            Check.due(codes[i] + ": DE", core.reg(2), 0xD200);
            Check.due(codes[i] + ": HL", core.reg(3), wantHl[i]);
            core.run(2);
            Check.due("LD SP,HL", core.reg(4), wantHl[i]);
            Check.due("JP HL", core.reg(5), wantHl[i]);
            Check.due("HL behind both", core.reg(3), wantHl[i]);
        }
    }
}
