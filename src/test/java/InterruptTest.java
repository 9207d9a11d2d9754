/** Promises 5, 7 and 10: DISPATCH, EI, DI, RETI, HALT, the HALT BUG, request, look. */
final class InterruptTest {
    public static void main(String[] args) {
        request();
        wrongLooks();
        enabling();
        disabling();
        eiAndNoInstruction();
        returning();
        dispatching();
        dispatchWritesOverFlags();
        halting();
        haltBug();
        haltBehindEi();
        haltWithNoInstruction();
        Check.end();
    }

    private static void state(String what, GameCore core, int pc, int ime, int waits, int halt, int bug) {
        Check.due(what + ": PC", core.reg(5), pc);
        Check.due(what + ": IME", core.look(0), ime);
        Check.due(what + ": an EI waits", core.look(1), waits);
        Check.due(what + ": HALT", core.look(2), halt);
        Check.due(what + ": HALT BUG", core.look(3), bug);
    }

    private static void request() {
        GameCore core = new GameCore();
        int all = 0;
        for (int bit : new int[] {3, 0, 4, 1, 1, 2}) {
            all |= 1 << bit;
            Check.due("request(" + bit + ")", core.request(bit), true);
            Check.due("IF behind request(" + bit + ")", core.peek(0xFF0F), all);
        }
        core.poke(0xFF0F, 0xE0);
        Check.due("request(1)", core.request(1), true);
        Check.due("IF's other bits stay", core.peek(0xFF0F), 0xE2);
        for (int bit : new int[] {-1, 5, 6, 7, 8, 31, 32, 33, Integer.MIN_VALUE, Integer.MAX_VALUE}) {
            Check.due("request(" + bit + ")", core.request(bit), false);
            Check.due("IF stays", core.peek(0xFF0F), 0xE2);
        }
    }

    private static void wrongLooks() {
        GameCore core = new GameCore();
        for (int what : new int[] {-1, 5, 6, Integer.MIN_VALUE, Integer.MAX_VALUE}) {
            Check.due("look(" + what + ")", core.look(what), GameCore.NONE);
        }
    }

    private static void enabling() {
        GameCore core = Check.program(0xC000, "FB 00 FB FB 00");
        state("new", core, 0xC000, 0, 0, 0, 0);
        core.step();
        state("EI", core, 0xC001, 0, 1, 0, 0);
        core.step();
        state("behind what comes next", core, 0xC002, 1, 0, 0, 0);
        core.step();
        state("EI with IME on", core, 0xC003, 1, 0, 0, 0);

        core = Check.program(0xC000, "FB FB 00");
        core.poke(0xFFFF, 1);
        core.request(0);
        core.set(4, 0xD000);
        core.step();
        core.step();
        state("EI behind EI moves nothing", core, 0xC002, 1, 0, 0, 0);
        core.step();
        state("DISPATCH behind EI, EI", core, 0x40, 0, 0, 0, 0);
    }

    private static void disabling() {
        GameCore core = Check.program(0xC000, "FB F3 00 FB 00 F3 00");
        core.run(2);
        state("DI behind EI", core, 0xC002, 0, 0, 0, 0);
        core.step();
        state("one more", core, 0xC003, 0, 0, 0, 0);
        core.run(2);
        state("EI, NOP", core, 0xC005, 1, 0, 0, 0);
        core.step();
        state("DI", core, 0xC006, 0, 0, 0, 0);
    }

    private static void eiAndNoInstruction() {
        GameCore core = Check.program(0xC000, "FB D3");
        core.step();
        Check.due("what is none behind EI", core.step(), 2);
        state("EI waits on", core, 0xC001, 0, 1, 0, 0);
        core.poke(0xC001, 0x00);
        core.step();
        state("then IME is on", core, 0xC002, 1, 0, 0, 0);
    }

    private static void returning() {
        GameCore core = Check.program(0xC000, "D9");
        core.set(4, 0xD000);
        core.poke(0xD000, 0x34);
        core.poke(0xD001, 0x12);
        core.step();
        state("RETI", core, 0x1234, 1, 0, 0, 0);
        Check.due("SP behind RETI", core.reg(4), 0xD002);

        core = Check.program(0xC000, "FB D9");
        core.set(4, 0xD000);
        core.run(2);
        state("RETI behind EI", core, 0, 1, 0, 0, 0);
        core = Check.program(0xC000, "C9");
        core.set(4, 0xD000);
        core.step();
        state("RET", core, 0, 0, 0, 0, 0);
    }

    private static GameCore enabled(int enable, int flags) {
        GameCore core = Check.program(0xC000, "FB 00 00 00");
        core.run(2);
        core.set(4, 0xD000);
        core.poke(0xFFFF, enable);
        core.poke(0xFF0F, flags);
        return core;
    }

    private static void dispatching() {
        for (int bit = 0; bit < 5; bit++) {
            GameCore core = enabled(0xFF, 0xFF & -1 << bit);
            Check.due("DISPATCH of bit " + bit, core.step(), 0);
            state("DISPATCH of bit " + bit, core, 64 + 8 * bit, 0, 0, 0, 0);
            Check.due("its bit of IF is 0", core.peek(0xFF0F), 0xFF & -1 << (bit + 1));
            Check.due("IE stays", core.peek(0xFFFF), 0xFF);
            Check.due("its M-cycles", core.mcycles(), 2 + 5);
            Check.due("COUNTER", core.look(4), 2 + 5);
            Check.due("SP", core.reg(4), 0xCFFE);
            Check.due("PC's high byte", core.peek(0xCFFF), 0xC0);
            Check.due("PC's low byte", core.peek(0xCFFE), 0x02);
        }
        GameCore core = enabled(0x14, 0x1B);
        core.step();
        state("only what IE lets", core, 0x60, 0, 0, 0, 0);
        Check.due("IF behind it", core.peek(0xFF0F), 0x0B);
        core = enabled(0xE0, 0xFF);
        core.step();
        state("bits 5 to 7 are no interrupts", core, 0xC003, 1, 0, 0, 0);
        core = enabled(0x0A, 0x15);
        core.step();
        state("nothing PENDING", core, 0xC003, 1, 0, 0, 0);
        core = Check.program(0xC000, "00 00");
        core.poke(0xFFFF, 1);
        core.request(0);
        core.step();
        state("IME off", core, 0xC001, 0, 0, 0, 0);
    }

    private static void dispatchWritesOverFlags() {
        GameCore core = enabled(0x01, 0xFF);
        core.set(4, 0xFF11);
        core.set(5, 0x12FF);
        core.step();
        Check.due("PC's low byte over IF", core.peek(0xFF0F), 0xFF);
        Check.due("PC behind it", core.reg(5), 0x40);
        core = enabled(0x03, 0x03);
        core.set(4, 0);
        core.set(5, 0xA234);
        core.step();
        Check.due("PC's high byte over IE", core.peek(0xFFFF), 0xA2);
        Check.due("PC as it was PENDING ahead", core.reg(5), 0x40);
        Check.due("IF", core.peek(0xFF0F), 0x02);
        core = enabled(0x01, 0x01);
        core.set(4, 0xFF05);
        core.step();
        Check.due("a push over FF04", core.peek(0xFF04), 0);
        Check.due("COUNTER behind it", core.look(4), 5);
    }

    private static void halting() {
        GameCore core = Check.program(0xC000, "76 3C");
        core.set(4, 0xD000);
        Check.due("HALT", core.step(), 0);
        state("HALT", core, 0xC001, 0, 0, 1, 0);
        for (int i = 0; i < 3; i++) {
            Check.due("in HALT", core.step(), 1);
        }
        state("in HALT", core, 0xC001, 0, 0, 1, 0);
        Check.due("M-cycles in HALT", core.mcycles(), 4);
        Check.due("COUNTER in HALT", core.look(4), 4);
        core.request(3);
        Check.due("not PENDING without IE", core.step(), 1);
        core.poke(0xFFFF, 8);
        Check.due("HALT is left, IME off", core.step(), 0);
        state("HALT is left, IME off", core, 0xC002, 0, 0, 0, 0);
        Check.due("its instruction is done", core.reg(0), 0x0100);
        Check.due("IF stays", core.peek(0xFF0F), 8);

        core = Check.program(0xC000, "FB 00 76 00");
        core.set(4, 0xD000);
        core.run(3);
        state("HALT with IME", core, 0xC003, 1, 0, 1, 0);
        core.poke(0xFFFF, 4);
        core.request(2);
        Check.due("DISPATCH out of HALT", core.step(), 0);
        state("DISPATCH out of HALT", core, 0x50, 0, 0, 0, 0);
        Check.due("M-cycles of it", core.mcycles(), 3 + 5);
        Check.due("it comes back behind the HALT", core.peek(0xCFFE), 0x03);
    }

    private static GameCore bugged(String bytes) {
        GameCore core = Check.program(0xC000, "76 " + bytes);
        core.poke(0xFFFF, 1);
        core.request(0);
        core.set(4, 0xD000);
        core.step();
        state("HALT BUG ahead of " + bytes, core, 0xC001, 0, 0, 0, 1);
        return core;
    }

    private static void haltBug() {
        GameCore core = bugged("3C 00");
        core.step();
        state("INC A, PC stays", core, 0xC001, 0, 0, 0, 0);
        core.step();
        state("INC A, again", core, 0xC002, 0, 0, 0, 0);
        Check.due("A twice up", core.reg(0) >> 8, 2);

        core = bugged("06 04 00");
        core.step();
        state("LD B,d8 reads its own byte", core, 0xC002, 0, 0, 0, 0);
        Check.due("B", core.reg(1), 0x0600);
        core.step();
        Check.due("its d8 is the next opcode (INC B)", core.reg(1), 0x0700);

        core = bugged("01 34 12");
        core.step();
        state("LD BC,d16", core, 0xC003, 0, 0, 0, 0);
        Check.due("BC", core.reg(1), 0x3401);

        core = bugged("CB 37");
        core.step();
        state("CB reads CB", core, 0xC002, 0, 0, 0, 0);
        Check.due("SET 1,E", core.reg(2), 2);

        core = bugged("C7");
        core.step();
        state("RST", core, 0, 0, 0, 0, 0);
        Check.due("RST pushes its own place", core.peek(0xCFFE), 0x01);

        core = bugged("76 00");
        core.step();
        state("HALT behind a HALT BUG", core, 0xC001, 0, 0, 0, 1);
        core.poke(0xFF0F, 0);
        core.step();
        state("with none PENDING", core, 0xC001, 0, 0, 1, 0);

        core = bugged("D3");
        Check.due("what is none behind a HALT BUG", core.step(), 2);
        state("what is none behind a HALT BUG", core, 0xC001, 0, 0, 0, 1);
        core.poke(0xC001, 0x3C);
        core.step();
        state("the HALT BUG stood", core, 0xC001, 0, 0, 0, 0);

        core = bugged("FB 00");
        core.step();
        state("EI behind a HALT BUG", core, 0xC001, 0, 1, 0, 0);
        core.step();
        state("EI, again", core, 0xC002, 1, 0, 0, 0);
    }

    private static void haltBehindEi() {
        GameCore core = Check.program(0xC000, "FB 76 00");
        core.poke(0xFFFF, 1);
        core.request(0);
        core.set(4, 0xD000);
        core.run(2);
        state("EI, HALT with some PENDING", core, 0xC001, 1, 0, 0, 0);
        Check.due("M-cycles", core.mcycles(), 2);
        core.step();
        state("DISPATCH", core, 0x40, 0, 0, 0, 0);
        Check.due("it comes back to the HALT", core.peek(0xCFFE), 0x01);

        core = Check.program(0xC000, "FB 76 00");
        core.run(2);
        state("EI, HALT with none PENDING", core, 0xC002, 1, 0, 1, 0);

        core = Check.program(0xFFFF, "FB 76");
        core.poke(0xFF0F, 0x1F);
        core.run(2);
        state("EI, HALT around the end", core, 0, 1, 0, 0, 0);
    }

    private static void haltWithNoInstruction() {
        GameCore core = Check.program(0xC000, "76 DD 00");
        core.step();
        core.poke(0xFFFF, 1);
        core.request(0);
        Check.due("what is none behind HALT", core.step(), 2);
        state("HALT stands", core, 0xC001, 0, 0, 1, 0);
        core.poke(0xFF0F, 0);
        Check.due("and goes on", core.step(), 1);
        Check.due("M-cycles", core.mcycles(), 2);
    }
}
