/** Promises 5 and 11: the M-CYCLES, by examples, and by the document's list for every opcode. */
final class CycleTest {
    private static final int[] SEEN = new int[256];

    public static void main(String[] args) {
        byExamples();
        jumps();
        stackAndWords();
        bytesAtPlaces();
        sumsAndMoves();
        everyOpcodeWasSeen();
        bitPage();
        Check.end();
    }

    /** M-cycles and PC behind one instruction at 1000 with the flags given. */
    private static void costs(String bytes, int flags, int cycles, int pc) {
        GameCore core = Check.program(1000, bytes);
        core.set(0, flags);
        core.set(3, 0xC100);
        core.set(4, 0xD000);
        core.poke(0xD000, 0xCD);
        core.poke(0xD001, 0xAB);
        core.step();
        Check.due(bytes + " with flags " + flags + ": M-cycles", core.mcycles(), cycles);
        Check.due(bytes + " with flags " + flags + ": PC", core.reg(5), pc);
    }

    private static void byExamples() {
        int[] conditionOff = {0x80, 0x00, 0x10, 0x00};
        int[] conditionOn = {0x00, 0x80, 0x00, 0x10};
        for (int i = 0; i < 4; i++) {
            String row = Integer.toHexString(0x20 + 8 * i);
            costs(row + " 10", conditionOn[i], 3, 1018);
            costs(row + " 80", conditionOn[i], 3, 874);
            costs(row + " 10", conditionOff[i], 2, 1002);
            costs(Integer.toHexString(0xC2 + 8 * i) + " 34 12", conditionOn[i], 4, 0x1234);
            costs(Integer.toHexString(0xC2 + 8 * i) + " 34 12", conditionOff[i], 3, 1003);
            costs(Integer.toHexString(0xC4 + 8 * i) + " 34 12", conditionOn[i], 6, 0x1234);
            costs(Integer.toHexString(0xC4 + 8 * i) + " 34 12", conditionOff[i], 3, 1003);
            costs(Integer.toHexString(0xC0 + 8 * i), conditionOn[i], 5, 0xABCD);
            costs(Integer.toHexString(0xC0 + 8 * i), conditionOff[i], 2, 1001);
        }
        costs("18 10", 0, 3, 1018);
        costs("C3 34 12", 0, 4, 0x1234);
        costs("E9", 0, 1, 0xC100);
        costs("CD 34 12", 0, 6, 0x1234);
        costs("C9", 0, 4, 0xABCD);
        costs("D9", 0, 4, 0xABCD);
        for (int i = 0; i < 8; i++) {
            costs(Integer.toHexString(0xC7 + 8 * i), 0, 4, 8 * i);
        }
        String[] ones = {"00", "07", "27", "2F", "37", "3F", "04", "0D", "41", "7F", "80", "BF", "76", "F3", "FB"};
        for (String bytes : ones) {
            costs(bytes, 0, 1, 1001);
        }
        String[] twos = {"02", "1A", "22", "3A", "03", "3B", "09", "39", "46", "77", "86", "BE", "E2", "F2", "F9"};
        for (String bytes : twos) {
            costs(bytes, 0, 2, 1001);
        }
        String[] twosOfTwo = {"06 01", "3E 01", "C6 01", "FE 01", "CB 00", "CB 7F", "CB 80", "CB FF"};
        for (String bytes : twosOfTwo) {
            costs(bytes, 0, 2, 1002);
        }
        costs("34", 0, 3, 1001);
        costs("35", 0, 3, 1001);
        costs("C1", 0, 3, 1001);
        costs("C5", 0, 4, 1001);
        costs("36 01", 0, 3, 1002);
        costs("E0 80", 0, 3, 1002);
        costs("F0 80", 0, 3, 1002);
        costs("F8 01", 0, 3, 1002);
        costs("E8 01", 0, 4, 1002);
        costs("CB 46", 0, 3, 1002);
        costs("CB 06", 0, 4, 1002);
        costs("CB 86", 0, 4, 1002);
        costs("CB C6", 0, 4, 1002);
        costs("01 34 12", 0, 3, 1003);
        costs("31 34 12", 0, 3, 1003);
        costs("08 34 12", 0, 5, 1003);
        costs("EA 34 12", 0, 4, 1003);
        costs("FA 34 12", 0, 4, 1003);
    }

    /** The flags are those with which a condition of the opcode's row does, or does not, hold. */
    private static void takes(int opcode, int taken, int notTaken) {
        SEEN[opcode]++;
        boolean onZ = (opcode & 0x10) == 0;
        boolean wantsOn = (opcode & 0x08) != 0;
        int flag = onZ ? 0x80 : 0x10;
        Check.due(name(opcode) + " taken", spent(opcode, wantsOn ? flag : 0xF0 - flag), taken);
        Check.due(name(opcode) + " not taken", spent(opcode, wantsOn ? 0xF0 - flag : flag), notTaken);
    }

    private static void take(int cycles, int... opcodes) {
        for (int opcode : opcodes) {
            SEEN[opcode]++;
            Check.due(name(opcode) + " with no flags", spent(opcode, 0), cycles);
            Check.due(name(opcode) + " with all flags", spent(opcode, 0xF0), cycles);
        }
    }

    private static String name(int opcode) {
        return "M-cycles of " + Integer.toHexString(opcode);
    }

    private static int spent(int opcode, int flags) {
        GameCore core = new GameCore();
        core.poke(0xC000, opcode);
        core.set(0, flags);
        for (int i = 1; i < 5; i++) {
            core.set(i, 0xD000 + 16 * i);
        }
        core.set(5, 0xC000);
        Check.due(name(opcode) + ": step()", core.step(), 0);
        Check.due(name(opcode) + ": COUNTER", core.look(4), core.mcycles());
        return core.mcycles();
    }

    private static void jumps() {
        for (int row = 0; row < 4; row++) {
            takes(0x20 + 8 * row, 3, 2);
            takes(0xC2 + 8 * row, 4, 3);
            takes(0xC4 + 8 * row, 6, 3);
            takes(0xC0 + 8 * row, 5, 2);
        }
        take(3, 0x18);
        take(4, 0xC3);
        take(1, 0xE9);
        take(6, 0xCD);
        take(4, 0xC9, 0xD9);
        take(4, 0xC7, 0xCF, 0xD7, 0xDF, 0xE7, 0xEF, 0xF7, 0xFF);
    }

    private static void stackAndWords() {
        take(4, 0xC5, 0xD5, 0xE5, 0xF5);
        take(3, 0xC1, 0xD1, 0xE1, 0xF1);
        take(3, 0x01, 0x11, 0x21, 0x31);
        take(5, 0x08);
        take(2, 0x09, 0x19, 0x29, 0x39);
        take(2, 0x03, 0x13, 0x23, 0x33, 0x0B, 0x1B, 0x2B, 0x3B);
        take(4, 0xE8);
        take(3, 0xF8);
        take(2, 0xF9);
    }

    /** Loads by BC, DE, HL+ and HL- are as those by HL, as the tables tell. */
    private static void bytesAtPlaces() {
        take(2, 0x02, 0x12, 0x22, 0x32, 0x0A, 0x1A, 0x2A, 0x3A);
        take(2, 0x46, 0x4E, 0x56, 0x5E, 0x66, 0x6E, 0x7E, 0x70, 0x71, 0x72, 0x73, 0x74, 0x75, 0x77);
        take(2, 0x86, 0x8E, 0x96, 0x9E, 0xA6, 0xAE, 0xB6, 0xBE);
        take(3, 0x34, 0x35, 0x36);
        take(4, 0xEA, 0xFA);
        take(3, 0xE0, 0xF0);
        take(2, 0xE2, 0xF2);
    }

    private static void sumsAndMoves() {
        take(2, 0xC6, 0xCE, 0xD6, 0xDE, 0xE6, 0xEE, 0xF6, 0xFE);
        take(2, 0x06, 0x0E, 0x16, 0x1E, 0x26, 0x2E, 0x3E);
        take(2, 0xCB);
        take(1, 0x00, 0x07, 0x0F, 0x17, 0x1F, 0x27, 0x2F, 0x37, 0x3F, 0x76, 0xF3, 0xFB);
        for (int row = 0; row < 8; row++) {
            if (row != 6) {
                take(1, 0x04 + 8 * row, 0x05 + 8 * row);
            }
            for (int column = 0; column < 8; column++) {
                if (column != 6) {
                    take(1, 0x80 + 8 * row + column);
                }
                if (column != 6 && row != 6) {
                    take(1, 0x40 + 8 * row + column);
                }
            }
        }
    }

    private static void everyOpcodeWasSeen() {
        int none = 0;
        for (int opcode = 0; opcode < 256; opcode++) {
            none += SEEN[opcode] == 0 ? 1 : 0;
            Check.due("times " + Integer.toHexString(opcode) + " was seen", SEEN[opcode] <= 1, true);
        }
        Check.due("opcodes that are no instruction", none, 12);
    }

    private static void bitPage() {
        for (int second = 0; second < 256; second++) {
            GameCore core = new GameCore();
            core.poke(0xC000, 0xCB);
            core.poke(0xC001, second);
            core.set(3, 0xD000);
            core.set(5, 0xC000);
            core.step();
            boolean atHl = (second & 7) == 6;
            boolean bit = second >= 0x40 && second < 0x80;
            Check.due("M-cycles of CB " + Integer.toHexString(second), core.mcycles(), !atHl ? 2 : bit ? 3 : 4);
            Check.due("PC behind CB " + Integer.toHexString(second), core.reg(5), 0xC002);
        }
    }
}
