/** HALT and the HALT BUG: points 2 and 3 of a STEP, and what the document says under HALT. */
final class HaltTest {
    public static void main(String[] args) {
        halting();
        inHaltWithImeOn();
        nothingPendingInHalt();
        eachBitEndsHalt();
        haltBug();
        haltBugOfLongInstructions();
        haltBugAndSetPc();
        haltBehindEi();
        haltWithNoInstruction();
        noInstructionInHalt();
        Check.end();
    }

    private static void halting() {
        GameCore core = Check.program(0xC000, "76 3C");
        core.set(4, 0xD000);
        Check.due("HALT", core.step(), 0);
        Check.state("HALT", core, 0xC001, 0, 0, 1, 0);
        for (int i = 0; i < 3; i++) {
            Check.due("in HALT", core.step(), 1);
        }
        Check.state("in HALT", core, 0xC001, 0, 0, 1, 0);
        Check.due("M-cycles in HALT", core.mcycles(), 4);
        Check.due("COUNTER in HALT", core.look(4), 4);
        core.request(3);
        Check.due("not PENDING without IE", core.step(), 1);
        core.poke(0xFFFF, 8);
        Check.due("HALT is left, IME off", core.step(), 0);
        Check.state("HALT is left, IME off", core, 0xC002, 0, 0, 0, 0);
        Check.due("its instruction is done", core.reg(0), 0x0100);
        Check.due("IF stays", core.peek(0xFF0F), 8);

        core = Check.program(0xC000, "FB 00 76 00");
        core.set(4, 0xD000);
        core.run(3);
        Check.state("HALT with IME", core, 0xC003, 1, 0, 1, 0);
        core.poke(0xFFFF, 4);
        core.request(2);
        Check.due("DISPATCH out of HALT", core.step(), 0);
        Check.state("DISPATCH out of HALT", core, 0x50, 0, 0, 0, 0);
        Check.due("M-cycles of it", core.mcycles(), 3 + 5);
        Check.due("it comes back behind the HALT", core.peek(0xCFFE), 0x03);
    }

    private static GameCore bugged(String bytes) {
        return bugged(bytes, 0);
    }

    private static GameCore bugged(String bytes, int bit) {
        GameCore core = Check.program(0xC000, "76 " + bytes);
        core.poke(0xFFFF, 1 << bit);
        core.request(bit);
        core.set(4, 0xD000);
        core.step();
        Check.state("HALT BUG ahead of " + bytes, core, 0xC001, 0, 0, 0, 1);
        return core;
    }

    private static void haltBug() {
        GameCore core = bugged("3C 00");
        core.step();
        Check.state("INC A, PC stays", core, 0xC001, 0, 0, 0, 0);
        core.step();
        Check.state("INC A, again", core, 0xC002, 0, 0, 0, 0);
        Check.due("A twice up", core.reg(0) >> 8, 2);

        core = bugged("06 04 00");
        core.step();
        Check.state("LD B,d8 reads its own byte", core, 0xC002, 0, 0, 0, 0);
        Check.due("B", core.reg(1), 0x0600);
        core.step();
        Check.due("its d8 is the next opcode (INC B)", core.reg(1), 0x0700);

        core = bugged("01 34 12");
        core.step();
        Check.state("LD BC,d16", core, 0xC003, 0, 0, 0, 0);
        Check.due("BC", core.reg(1), 0x3401);

        core = bugged("CB 37");
        core.step();
        Check.state("CB reads CB", core, 0xC002, 0, 0, 0, 0);
        Check.due("SET 1,E", core.reg(2), 2);

        core = bugged("C7");
        core.step();
        Check.state("RST", core, 0, 0, 0, 0, 0);
        Check.due("RST pushes its own place", core.peek(0xCFFE), 0x01);

        core = bugged("76 00");
        core.step();
        Check.state("HALT behind a HALT BUG", core, 0xC001, 0, 0, 0, 1);
        core.poke(0xFF0F, 0);
        core.step();
        Check.state("with none PENDING", core, 0xC001, 0, 0, 1, 0);

        core = bugged("D3");
        Check.due("what is none behind a HALT BUG", core.step(), 2);
        Check.state("what is none behind a HALT BUG", core, 0xC001, 0, 0, 0, 1);
        core.poke(0xC001, 0x3C);
        core.step();
        Check.state("the HALT BUG stood", core, 0xC001, 0, 0, 0, 0);

        core = bugged("FB 00");
        core.step();
        Check.state("EI behind a HALT BUG", core, 0xC001, 0, 1, 0, 0);
        core.step();
        Check.state("EI, again", core, 0xC002, 1, 0, 0, 0);
    }

    private static void haltBehindEi() {
        GameCore core = Check.program(0xC000, "FB 76 00");
        core.poke(0xFFFF, 1);
        core.request(0);
        core.set(4, 0xD000);
        core.run(2);
        Check.state("EI, HALT with some PENDING", core, 0xC001, 1, 0, 0, 0);
        Check.due("M-cycles", core.mcycles(), 2);
        core.step();
        Check.state("DISPATCH", core, 0x40, 0, 0, 0, 0);
        Check.due("it comes back to the HALT", core.peek(0xCFFE), 0x01);

        core = Check.program(0xC000, "FB 76 00");
        core.run(2);
        Check.state("EI, HALT with none PENDING", core, 0xC002, 1, 0, 1, 0);

        core = Check.program(0xFFFF, "FB 76");
        core.poke(0xFF0F, 0x1F);
        core.run(2);
        Check.state("EI, HALT around the end", core, 0, 1, 0, 0, 0);
    }

    private static void haltWithNoInstruction() {
        GameCore core = Check.program(0xC000, "76 DD 00");
        core.step();
        core.poke(0xFFFF, 1);
        core.request(0);
        Check.due("what is none behind HALT", core.step(), 2);
        Check.state("HALT stands", core, 0xC001, 0, 0, 1, 0);
        core.poke(0xFF0F, 0);
        Check.due("and goes on", core.step(), 1);
        Check.due("M-cycles", core.mcycles(), 2);
    }

    /** Point 2 with IME on: it stays in HALT till a DISPATCH. */
    private static void inHaltWithImeOn() {
        GameCore core = Check.program(0xC000, "FB 76 3C");
        core.set(4, 0xD000);
        core.run(2);
        Check.state("HALT behind EI", core, 0xC002, 1, 0, 1, 0);
        for (int i = 1; i <= 3; i++) {
            Check.due("in HALT with IME on", core.step(), 1);
            Check.due("one M-cycle each", core.mcycles(), 2 + i);
            Check.due("COUNTER", core.look(4), 2 + i);
        }
        Check.state("in HALT with IME on", core, 0xC002, 1, 0, 1, 0);
        core.poke(0xFFFF, 0x10);
        core.request(4);
        Check.due("DISPATCH", core.step(), 0);
        Check.state("DISPATCH", core, 0x60, 0, 0, 0, 0);
        Check.due("it comes back behind the HALT", core.peek(0xCFFE), 0x02);
    }

    /** PENDING is "IE and IF, the lowest five bits". */
    private static void nothingPendingInHalt() {
        int[][] pairs = {{0xFF, 0x00}, {0x00, 0xFF}, {0xE0, 0xFF}, {0xFF, 0xE0}, {0x15, 0x0A}, {0x0A, 0x15}};
        for (int[] pair : pairs) {
            String what = "IE " + pair[0] + ", IF " + pair[1];
            GameCore core = Check.program(0xC000, "76 3C");
            core.poke(0xFFFF, pair[0]);
            core.poke(0xFF0F, pair[1]);
            Check.due(what + ": HALT", core.step(), 0);
            Check.state(what + ": HALT", core, 0xC001, 0, 0, 1, 0);
            Check.due(what + ": run(2000) in HALT", core.run(2000), 2000);
            Check.due(what + ": step() in HALT", core.step(), 1);
            Check.state(what + ": in HALT", core, 0xC001, 0, 0, 1, 0);
            Check.due(what + ": M-cycles", core.mcycles(), 2002);
        }
    }

    private static void eachBitEndsHalt() {
        for (int bit = 0; bit < 5; bit++) {
            GameCore core = Check.program(0xC000, "76 3C");
            core.poke(0xFFFF, 1 << bit);
            core.run(2);
            core.request(bit);
            Check.due("HALT is left by bit " + bit, core.step(), 0);
            Check.state("HALT is left by bit " + bit, core, 0xC002, 0, 0, 0, 0);
            Check.due("IF's bit " + bit + " stays", core.peek(0xFF0F), 1 << bit);
            core = bugged("3C", bit);
            core.step();
            Check.state("the HALT BUG by bit " + bit, core, 0xC001, 0, 0, 0, 0);
        }
    }

    /** "the byte is come to again, what belongs to it is read from there on". */
    private static void haltBugOfLongInstructions() {
        GameCore core = bugged("C3 34 12");
        core.step();
        Check.state("JP a16", core, 0x34C3, 0, 0, 0, 0);
        core = bugged("CD 34 12");
        core.step();
        Check.state("CALL a16", core, 0x34CD, 0, 0, 0, 0);
        Check.due("CALL comes back to its last byte", core.peek(0xCFFE), 0x03);
        core = bugged("18 05");
        core.step();
        Check.state("JR e8 by its own byte", core, 0xC002 + 0x18, 0, 0, 0, 0);
        core = bugged("C4 34 12");
        core.set(0, 0x80);
        core.step();
        Check.state("CALL NZ, not taken", core, 0xC003, 0, 0, 0, 0);
        core = bugged("C9");
        core.poke(0xD000, 0x78);
        core.poke(0xD001, 0x56);
        core.step();
        Check.state("RET", core, 0x5678, 0, 0, 0, 0);
        core = bugged("D9");
        core.step();
        Check.state("RETI", core, 0, 1, 0, 0, 0);
        core = bugged("F3 00");
        core.step();
        Check.state("DI", core, 0xC001, 0, 0, 0, 0);
        core = bugged("08 00 00");
        core.step();
        Check.state("LD (a16),SP", core, 0xC003, 0, 0, 0, 0);
        Check.due("its place is 0008", core.peek(9), 0xD0);
        core = bugged("3C");
        Check.due("M-cycles of HALT", core.mcycles(), 1);
        core.run(2);
        Check.due("M-cycles of both", core.mcycles(), 3);
    }

    /** set() moves PC alone: the bug waits for whatever byte PC is at. */
    private static void haltBugAndSetPc() {
        GameCore core = bugged("3C");
        core.set(5, 0xC100);
        core.poke(0xC100, 0x04);
        core.poke(0xFF0F, 0);
        Check.state("set(5, ..)", core, 0xC100, 0, 0, 0, 1);
        core.step();
        Check.state("INC B there", core, 0xC100, 0, 0, 0, 0);
        core.step();
        Check.state("once", core, 0xC101, 0, 0, 0, 0);
        Check.due("B", core.reg(1) >> 8, 2);
    }

    /** Point 2 comes ahead of point 3, also if PC is at what would give 2. */
    private static void noInstructionInHalt() {
        GameCore core = Check.program(0xC000, "76 D3");
        core.step();
        Check.due("in HALT ahead of what is none", core.step(), 1);
        Check.due("run(9)", core.run(9), 9);
        core.poke(0xFFFF, 1);
        core.request(0);
        Check.due("run(9) with some PENDING", core.run(9), 0);
        Check.state("HALT stands", core, 0xC001, 0, 0, 1, 0);
        Check.due("M-cycles", core.mcycles(), 11);
    }
}
