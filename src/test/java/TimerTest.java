/** The TIMER of promise 5, the COUNTER of promise 10 and promise 11. */
final class TimerTest {
    public static void main(String[] args) {
        divider();
        periods();
        off();
        overflow();
        reloadOf255();
        oneByOne();
        inHalt();
        interruptComesBehind();
        Check.end();
    }

    private static void divider() {
        GameCore core = new GameCore();
        core.run(63);
        Check.due("FF04 behind 63", core.peek(0xFF04), 0);
        Check.due("COUNTER behind 63", core.look(4), 63);
        core.run(1);
        Check.due("FF04 behind 64", core.peek(0xFF04), 1);
        core.run(191);
        Check.due("COUNTER behind 255", core.look(4), 255);
        Check.due("FF04 behind 255", core.peek(0xFF04), 3);
        core.run(1);
        Check.due("COUNTER behind 256", core.look(4), 0);
        Check.due("FF04 behind 256", core.peek(0xFF04), 4);
        core.poke(0xFF04, 255);
        core.run(64);
        Check.due("FF04 behind 255", core.peek(0xFF04), 0);
        Check.due("M-cycles", core.mcycles(), 320);
        Check.due("IF", core.peek(0xFF0F), 0);
    }

    private static void periods() {
        int[] period = {256, 4, 16, 64};
        for (int i = 0; i < 4; i++) {
            for (int high = 0; high < 256; high += 0xF8) {
                GameCore core = new GameCore();
                core.poke(0xFF07, high + 4 + i);
                core.run(period[i] - 1);
                Check.due("FF05 ahead of the period of " + i, core.peek(0xFF05), 0);
                core.run(1);
                Check.due("FF05 at the period of " + i, core.peek(0xFF05), 1);
                core.run(period[i] * 5 - 1);
                Check.due("FF05 behind " + i, core.peek(0xFF05), 5);
                core.run(1);
                Check.due("FF05 at six periods of " + i, core.peek(0xFF05), 6);
                Check.due("FF04 goes on alike", core.peek(0xFF04), period[i] * 6 / 64 % 256);
            }
        }
    }

    private static void off() {
        for (int i = 0; i < 4; i++) {
            GameCore core = new GameCore();
            core.poke(0xFF07, 0xF8 + i);
            core.run(1000);
            Check.due("FF05 with the timer off", core.peek(0xFF05), 0);
        }
    }

    private static void overflow() {
        GameCore core = new GameCore();
        core.poke(0xFF07, 5);
        core.poke(0xFF06, 77);
        core.poke(0xFF05, 254);
        core.poke(0xFF0F, 0xE1);
        core.run(4);
        Check.due("FF05 at 255", core.peek(0xFF05), 255);
        Check.due("IF ahead", core.peek(0xFF0F), 0xE1);
        core.run(4);
        Check.due("FF05 becomes FF06", core.peek(0xFF05), 77);
        Check.due("IF's bit 2", core.peek(0xFF0F), 0xE5);
        Check.due("FF06 stays", core.peek(0xFF06), 77);
    }

    private static void reloadOf255() {
        GameCore core = new GameCore();
        core.poke(0xFF07, 5);
        core.poke(0xFF06, 255);
        core.poke(0xFF05, 255);
        for (int i = 0; i < 3; i++) {
            core.poke(0xFF0F, 0);
            core.run(4);
            Check.due("FF05 by FF06 of 255", core.peek(0xFF05), 255);
            Check.due("IF each time", core.peek(0xFF0F), 4);
        }
        core.poke(0xFF05, 0);
        core.poke(0xFF0F, 0);
        core.run(4);
        Check.due("FF05 of 0 is no overflow", core.peek(0xFF05), 1);
        Check.due("IF without overflow", core.peek(0xFF0F), 0);
    }

    /** CALL takes 6 M-cycles, so a period of 4 may come twice within one instruction. */
    private static void oneByOne() {
        GameCore core = Check.program(0xC000, "00 00 CD 00 D0");
        core.set(4, 0xE000);
        core.poke(0xFF07, 5);
        core.poke(0xFF05, 255);
        core.poke(0xFF06, 10);
        core.run(3);
        Check.due("FF05 over two periods", core.peek(0xFF05), 11);
        Check.due("IF over two periods", core.peek(0xFF0F), 4);
        Check.due("COUNTER", core.look(4), 8);
        core = Check.program(0xC000, "3E 05 E0 07 3E 63 E0 05");
        core.run(2);
        Check.due("the timer that is put on sees its own M-cycles", core.peek(0xFF05), 1);
        core.run(2);
        Check.due("FF05 written at COUNTER 7 goes on behind", core.peek(0xFF05), 100);
        Check.due("COUNTER", core.look(4), 10);
    }

    private static void inHalt() {
        GameCore core = Check.program(0xC000, "76 00");
        core.poke(0xFFFF, 4);
        core.poke(0xFF07, 5);
        core.poke(0xFF05, 254);
        Check.due("HALT till the timer, and on", core.run(9), 9);
        Check.due("HALT is left", core.look(2), 0);
        Check.due("PC", core.reg(5), 0xC002);
        Check.due("M-cycles", core.mcycles(), 9);
    }

    private static void interruptComesBehind() {
        GameCore core = Check.program(0xC000, "FB 00 00 00 00");
        core.set(4, 0xE000);
        core.poke(0xFFFF, 4);
        core.poke(0xFF07, 5);
        core.poke(0xFF05, 255);
        core.run(4);
        Check.due("IF behind the fourth", core.peek(0xFF0F), 4);
        Check.due("PC behind the fourth", core.reg(5), 0xC004);
        core.step();
        Check.due("DISPATCH of the timer", core.reg(5), 0x50);
        Check.due("M-cycles", core.mcycles(), 9);
        Check.due("COUNTER", core.look(4), 9);
    }
}
