/** Promises 5, 7 and 10: DISPATCH, EI, DI, RETI, request, look. */
final class InterruptTest {
    public static void main(String[] args) {
        request();
        wrongLooks();
        enabling();
        disabling();
        eiAndNoInstruction();
        returning();
        dispatching();
        dispatchWritesOverFlags();
        dispatchOverEachPlace();
        dispatchAheadOfAll();
        requestAlone();
        eiWithSomePending();
        eiAheadOfEachKind();
        diWithImeOff();
        returnsWithSomePending();
        looksAreOneOrNought();
        Check.end();
    }

    private static void request() {
        GameCore core = new GameCore();
        int all = 0;
        for (int bit : new int[] {3, 0, 4, 1, 1, 2}) {
            all |= 1 << bit;
            Check.due("request(" + bit + ")", core.request(bit), true);
            Check.due("IF behind request(" + bit + ")", core.peek(0xFF0F), all);
        }
        core.poke(0xFF0F, 0xE0);
        Check.due("request(1)", core.request(1), true);
        Check.due("IF's other bits stay", core.peek(0xFF0F), 0xE2);
        for (int bit : new int[] {-1, 5, 6, 7, 8, 31, 32, 33, Integer.MIN_VALUE, Integer.MAX_VALUE}) {
            Check.due("request(" + bit + ")", core.request(bit), false);
            Check.due("IF stays", core.peek(0xFF0F), 0xE2);
        }
    }

    private static void wrongLooks() {
        GameCore core = new GameCore();
        for (int what : new int[] {-1, 5, 6, Integer.MIN_VALUE, Integer.MAX_VALUE}) {
            Check.due("look(" + what + ")", core.look(what), GameCore.NONE);
        }
    }

    private static void enabling() {
        GameCore core = Check.program(0xC000, "FB 00 FB FB 00");
        Check.state("new", core, 0xC000, 0, 0, 0, 0);
        core.step();
        Check.state("EI", core, 0xC001, 0, 1, 0, 0);
        core.step();
        Check.state("behind what comes next", core, 0xC002, 1, 0, 0, 0);
        core.step();
        Check.state("EI with IME on", core, 0xC003, 1, 0, 0, 0);

        core = Check.program(0xC000, "FB FB 00");
        core.poke(0xFFFF, 1);
        core.request(0);
        core.set(4, 0xD000);
        core.step();
        core.step();
        Check.state("EI behind EI moves nothing", core, 0xC002, 1, 0, 0, 0);
        core.step();
        Check.state("DISPATCH behind EI, EI", core, 0x40, 0, 0, 0, 0);
    }

    private static void disabling() {
        GameCore core = Check.program(0xC000, "FB F3 00 FB 00 F3 00");
        core.run(2);
        Check.state("DI behind EI", core, 0xC002, 0, 0, 0, 0);
        core.step();
        Check.state("one more", core, 0xC003, 0, 0, 0, 0);
        core.run(2);
        Check.state("EI, NOP", core, 0xC005, 1, 0, 0, 0);
        core.step();
        Check.state("DI", core, 0xC006, 0, 0, 0, 0);
    }

    private static void eiAndNoInstruction() {
        GameCore core = Check.program(0xC000, "FB D3");
        core.step();
        Check.due("what is none behind EI", core.step(), 2);
        Check.state("EI waits on", core, 0xC001, 0, 1, 0, 0);
        core.poke(0xC001, 0x00);
        core.step();
        Check.state("then IME is on", core, 0xC002, 1, 0, 0, 0);
    }

    private static void returning() {
        GameCore core = Check.program(0xC000, "D9");
        core.set(4, 0xD000);
        core.poke(0xD000, 0x34);
        core.poke(0xD001, 0x12);
        core.step();
        Check.state("RETI", core, 0x1234, 1, 0, 0, 0);
        Check.due("SP behind RETI", core.reg(4), 0xD002);

        core = Check.program(0xC000, "FB D9");
        core.set(4, 0xD000);
        core.run(2);
        Check.state("RETI behind EI", core, 0, 1, 0, 0, 0);
        core = Check.program(0xC000, "C9");
        core.set(4, 0xD000);
        core.step();
        Check.state("RET", core, 0, 0, 0, 0, 0);
    }

    private static GameCore enabled(int enable, int flags) {
        GameCore core = Check.program(0xC000, "FB 00 00 00");
        core.run(2);
        core.set(4, 0xD000);
        core.poke(0xFFFF, enable);
        core.poke(0xFF0F, flags);
        return core;
    }

    private static void dispatching() {
        for (int bit = 0; bit < 5; bit++) {
            GameCore core = enabled(0xFF, 0xFF & -1 << bit);
            Check.due("DISPATCH of bit " + bit, core.step(), 0);
            Check.state("DISPATCH of bit " + bit, core, 64 + 8 * bit, 0, 0, 0, 0);
            Check.due("its bit of IF is 0", core.peek(0xFF0F), 0xFF & -1 << (bit + 1));
            Check.due("IE stays", core.peek(0xFFFF), 0xFF);
            Check.due("its M-cycles", core.mcycles(), 2 + 5);
            Check.due("COUNTER", core.look(4), 2 + 5);
            Check.due("SP", core.reg(4), 0xCFFE);
            Check.due("PC's high byte", core.peek(0xCFFF), 0xC0);
            Check.due("PC's low byte", core.peek(0xCFFE), 0x02);
        }
        GameCore core = enabled(0x14, 0x1B);
        core.step();
        Check.state("only what IE lets", core, 0x60, 0, 0, 0, 0);
        Check.due("IF behind it", core.peek(0xFF0F), 0x0B);
        core = enabled(0xE0, 0xFF);
        core.step();
        Check.state("bits 5 to 7 are no interrupts", core, 0xC003, 1, 0, 0, 0);
        core = enabled(0x0A, 0x15);
        core.step();
        Check.state("nothing PENDING", core, 0xC003, 1, 0, 0, 0);
        core = Check.program(0xC000, "00 00");
        core.poke(0xFFFF, 1);
        core.request(0);
        core.step();
        Check.state("IME off", core, 0xC001, 0, 0, 0, 0);
    }

    private static void dispatchWritesOverFlags() {
        GameCore core = enabled(0x01, 0xFF);
        core.set(4, 0xFF11);
        core.set(5, 0x12FF);
        core.step();
        Check.due("PC's low byte over IF", core.peek(0xFF0F), 0xFF);
        Check.due("PC behind it", core.reg(5), 0x40);
        core = enabled(0x03, 0x03);
        core.set(4, 0);
        core.set(5, 0xA234);
        core.step();
        Check.due("PC's high byte over IE", core.peek(0xFFFF), 0xA2);
        Check.due("PC as it was PENDING ahead", core.reg(5), 0x40);
        Check.due("IF", core.peek(0xFF0F), 0x02);
        core = enabled(0x01, 0x01);
        core.set(4, 0xFF05);
        core.step();
        Check.due("a push over FF04", core.peek(0xFF04), 0);
        Check.due("COUNTER behind it", core.look(4), 5);
    }

    /** "IF's bit is cleared ahead of the pushes (which may write to IF, IE as to all else)". */
    private static void dispatchOverEachPlace() {
        pushedOver("PC's high byte over IF", 0xFF10, 0x3F12, 0x3F, 0x1F);
        pushedOver("PC's low byte over IF", 0xFF11, 0x123F, 0x3F, 0x1F);
        pushedOver("PC's high byte over IE", 0x0000, 0x0012, 0x1E, 0x00);
        pushedOver("PC's low byte over IE", 0x0001, 0x1200, 0x1E, 0x00);
        pushedOver("PC elsewhere", 0xD000, 0x1234, 0x1E, 0x1F);
        for (int sp = 0xFF05; sp <= 0xFF06; sp++) {
            GameCore core = enabled(0x01, 0x01);
            core.poke(0xFF04, 99);
            core.set(4, sp);
            core.set(5, 0xABCD);
            core.step();
            Check.due("FF04 behind pushes from " + sp, core.peek(0xFF04), 0);
            Check.due("COUNTER behind them", core.look(4), 5);
            Check.due("FF03 behind them", core.peek(0xFF03), sp == 0xFF05 ? 0xCD : 0);
            Check.due("FF05 behind them", core.peek(0xFF05), sp == 0xFF06 ? 0xAB : 0);
        }
    }

    private static void pushedOver(String what, int sp, int pc, int wantIf, int wantIe) {
        GameCore core = enabled(0x1F, 0x1F);
        core.set(4, sp);
        core.set(5, pc);
        Check.due(what + ": step()", core.step(), 0);
        Check.due(what + ": PC of the lowest that was PENDING", core.reg(5), 0x40);
        Check.due(what + ": IF", core.peek(0xFF0F), wantIf);
        Check.due(what + ": IE", core.peek(0xFFFF), wantIe);
    }

    /** Point 1 comes ahead of points 2 and 3: also of a byte that would give 2. */
    private static void dispatchAheadOfAll() {
        for (int opcode : new int[] {0x10, 0xD3, 0xFD, 0x76, 0xF3}) {
            GameCore core = enabled(0x08, 0x08);
            core.poke(0xC002, opcode);
            Check.due("DISPATCH ahead of " + opcode, core.step(), 0);
            Check.state("DISPATCH ahead of " + opcode, core, 0x58, 0, 0, 0, 0);
            Check.due("it comes back to it", core.peek(0xCFFE), 0x02);
        }
        GameCore core = enabled(0x18, 0x18);
        core.poke(0x58, 0xD9);
        core.run(3);
        Check.state("RETI, then the next one at once", core, 0x60, 0, 0, 0, 0);
        Check.due("IF behind both", core.peek(0xFF0F), 0);
        Check.due("M-cycles of both", core.mcycles(), 2 + 5 + 4 + 5);
        Check.due("SP behind both", core.reg(4), 0xCFFE);
    }

    /** Promise 7: IF's bit alone changes; what comes of it comes with the next step. */
    private static void requestAlone() {
        for (int bit = 0; bit < 5; bit++) {
            GameCore core = enabled(0xFF, 0);
            Check.due("request(" + bit + ")", core.request(bit), true);
            Check.state("behind request(" + bit + ")", core, 0xC002, 1, 0, 0, 0);
            Check.due("M-cycles behind request(" + bit + ")", core.mcycles(), 2);
            Check.due("IE behind request(" + bit + ")", core.peek(0xFFFF), 0xFF);
            Check.due("request(" + bit + ") once more", core.request(bit), true);
            Check.due("IF behind both", core.peek(0xFF0F), 1 << bit);
            core.step();
            Check.due("PC by request(" + bit + ")", core.reg(5), 64 + 8 * bit);
        }
        GameCore core = Check.program(0xC000, "76 00");
        core.poke(0xFFFF, 1);
        core.step();
        core.request(0);
        Check.state("request in HALT leaves nothing yet", core, 0xC001, 0, 0, 1, 0);
    }

    /** "IME goes on behind the instruction that comes next"; "a DISPATCH can't come between". */
    private static void eiWithSomePending() {
        GameCore core = Check.program(0xC000, "FB 3C 3C");
        core.set(4, 0xD000);
        core.poke(0xFFFF, 0x1F);
        core.poke(0xFF0F, 0x1F);
        core.step();
        Check.state("EI with some PENDING", core, 0xC001, 0, 1, 0, 0);
        core.step();
        Check.state("the next one is done first", core, 0xC002, 1, 0, 0, 0);
        Check.due("A", core.reg(0) >> 8, 1);
        core.step();
        Check.state("then the DISPATCH", core, 0x40, 0, 0, 0, 0);
        Check.due("A", core.reg(0) >> 8, 1);

        core = Check.program(0xC000, "FB F3 3C");
        core.poke(0xFFFF, 1);
        core.request(0);
        core.run(3);
        Check.state("EI, DI: never on", core, 0xC003, 0, 0, 0, 0);

        core = Check.program(0xC000, "FB D3");
        core.set(4, 0xD000);
        core.poke(0xFFFF, 1);
        core.request(0);
        core.step();
        Check.due("2 with some PENDING", core.step(), 2);
        Check.due("2 with some PENDING, again", core.step(), 2);
        Check.state("2 lets it wait", core, 0xC001, 0, 1, 0, 0);
        core.set(5, 0xC100);
        core.step();
        Check.state("then IME is on", core, 0xC101, 1, 0, 0, 0);
    }

    /** Whatever comes next but DI and what gives 2: a jump, a return, the CB page, a byte that follows. */
    private static void eiAheadOfEachKind() {
        String[] next = {"00", "18 05", "C3 00 C1", "CD 00 C1", "C9", "C7", "CB 37", "06 F3", "E9", "FB", "28 05"};
        for (String bytes : next) {
            GameCore core = Check.program(0xC000, "FB " + bytes);
            core.set(4, 0xD000);
            core.step();
            Check.due("EI waits ahead of " + bytes, core.look(1), 1);
            Check.due("IME ahead of " + bytes, core.look(0), 0);
            core.step();
            Check.due("EI waits behind " + bytes, core.look(1), 0);
            Check.due("IME behind " + bytes, core.look(0), 1);
        }
    }

    private static void diWithImeOff() {
        GameCore core = Check.program(0xC000, "F3 F3 00");
        core.run(2);
        Check.state("DI with IME off", core, 0xC002, 0, 0, 0, 0);
        core = Check.program(0xC000, "FB FB F3 00");
        core.run(3);
        Check.state("EI, EI, DI", core, 0xC003, 0, 0, 0, 0);
        core.step();
        Check.state("no EI waits behind it", core, 0xC004, 0, 0, 0, 0);
        core = Check.program(0xC000, "FB 00 FB F3 00");
        core.run(4);
        Check.state("EI with IME on, DI", core, 0xC004, 0, 0, 0, 0);
        core.step();
        Check.state("the EI with IME on did nothing", core, 0xC005, 0, 0, 0, 0);
    }

    /** "RETI: on at once": the DISPATCH is the next step; RET leaves IME. */
    private static void returnsWithSomePending() {
        for (String code : new String[] {"D9", "C9"}) {
            GameCore core = Check.program(0xC000, code);
            core.set(4, 0xD000);
            core.poke(0xD001, 0x12);
            core.poke(0xFFFF, 2);
            core.request(1);
            core.run(2);
            boolean reti = code.equals("D9");
            Check.state(code + " with some PENDING", core, reti ? 0x48 : 0x1201, 0, 0, 0, 0);
        }
        GameCore core = Check.program(0xC000, "FB 00 C9");
        core.set(4, 0xD000);
        core.run(3);
        Check.due("RET with IME on leaves it on", core.look(0), 1);
    }

    /** Promise 10: "1, 0", and 0 to 4 are all that there is. */
    private static void looksAreOneOrNought() {
        GameCore core = Check.program(0xC000, "FB 00 76");
        int[][] want = {{0, 0, 0, 0, 0}, {0, 1, 0, 0, 1}, {1, 0, 0, 0, 2}, {1, 0, 1, 0, 3}, {1, 0, 1, 0, 4}};
        for (int[] row : want) {
            for (int what = 0; what < 5; what++) {
                Check.due("look(" + what + ") at COUNTER " + row[4], core.look(what), row[what]);
            }
            Check.due("look(5)", core.look(5), GameCore.NONE);
            Check.due("look(-1)", core.look(-1), GameCore.NONE);
            core.step();
        }
    }
}
