/** The TIMER of promise 5, the COUNTER of promise 10 and promise 11. */
final class TimerTest {
    public static void main(String[] args) {
        divider();
        periods();
        off();
        overflow();
        reloadOf255();
        oneByOne();
        inHalt();
        interruptComesBehind();
        counterByEveryStep();
        dividerAlone();
        reloadOfNought();
        reloadWrittenByTheSameStep();
        overflowWithinADispatch();
        overflowTwiceWithinAStep();
        writeIsNoMultiple();
        controlByEachBit();
        timerOverItsOwnPlaces();
        Check.end();
    }

    private static void divider() {
        GameCore core = new GameCore();
        core.run(63);
        Check.due("FF04 behind 63", core.peek(0xFF04), 0);
        Check.due("COUNTER behind 63", core.look(4), 63);
        core.run(1);
        Check.due("FF04 behind 64", core.peek(0xFF04), 1);
        core.run(191);
        Check.due("COUNTER behind 255", core.look(4), 255);
        Check.due("FF04 behind 255", core.peek(0xFF04), 3);
        core.run(1);
        Check.due("COUNTER behind 256", core.look(4), 0);
        Check.due("FF04 behind 256", core.peek(0xFF04), 4);
        core.poke(0xFF04, 255);
        core.run(64);
        Check.due("FF04 behind 255", core.peek(0xFF04), 0);
        Check.due("M-cycles", core.mcycles(), 320);
        Check.due("IF", core.peek(0xFF0F), 0);
    }

    private static void periods() {
        int[] period = {256, 4, 16, 64};
        for (int i = 0; i < 4; i++) {
            for (int high = 0; high < 256; high += 0xF8) {
                GameCore core = new GameCore();
                core.poke(0xFF07, high + 4 + i);
                core.run(period[i] - 1);
                Check.due("FF05 ahead of the period of " + i, core.peek(0xFF05), 0);
                core.run(1);
                Check.due("FF05 at the period of " + i, core.peek(0xFF05), 1);
                core.run(period[i] * 5 - 1);
                Check.due("FF05 behind " + i, core.peek(0xFF05), 5);
                core.run(1);
                Check.due("FF05 at six periods of " + i, core.peek(0xFF05), 6);
                Check.due("FF04 goes on alike", core.peek(0xFF04), period[i] * 6 / 64 % 256);
            }
        }
    }

    private static void off() {
        for (int i = 0; i < 4; i++) {
            GameCore core = new GameCore();
            core.poke(0xFF07, 0xF8 + i);
            core.run(1000);
            Check.due("FF05 with the timer off", core.peek(0xFF05), 0);
        }
    }

    private static void overflow() {
        GameCore core = new GameCore();
        core.poke(0xFF07, 5);
        core.poke(0xFF06, 77);
        core.poke(0xFF05, 254);
        core.poke(0xFF0F, 0xE1);
        core.run(4);
        Check.due("FF05 at 255", core.peek(0xFF05), 255);
        Check.due("IF ahead", core.peek(0xFF0F), 0xE1);
        core.run(4);
        Check.due("FF05 becomes FF06", core.peek(0xFF05), 77);
        Check.due("IF's bit 2", core.peek(0xFF0F), 0xE5);
        Check.due("FF06 stays", core.peek(0xFF06), 77);
    }

    private static void reloadOf255() {
        GameCore core = new GameCore();
        core.poke(0xFF07, 5);
        core.poke(0xFF06, 255);
        core.poke(0xFF05, 255);
        for (int i = 0; i < 3; i++) {
            core.poke(0xFF0F, 0);
            core.run(4);
            Check.due("FF05 by FF06 of 255", core.peek(0xFF05), 255);
            Check.due("IF each time", core.peek(0xFF0F), 4);
        }
        core.poke(0xFF05, 0);
        core.poke(0xFF0F, 0);
        core.run(4);
        Check.due("FF05 of 0 is no overflow", core.peek(0xFF05), 1);
        Check.due("IF without overflow", core.peek(0xFF0F), 0);
    }

    /** CALL takes 6 M-cycles, so a period of 4 may come twice within one instruction. */
    private static void oneByOne() {
        GameCore core = Check.program(0xC000, "00 00 CD 00 D0");
        core.set(4, 0xE000);
        core.poke(0xFF07, 5);
        core.poke(0xFF05, 255);
        core.poke(0xFF06, 10);
        core.run(3);
        Check.due("FF05 over two periods", core.peek(0xFF05), 11);
        Check.due("IF over two periods", core.peek(0xFF0F), 4);
        Check.due("COUNTER", core.look(4), 8);
        core = Check.program(0xC000, "3E 05 E0 07 3E 63 E0 05");
        core.run(2);
        Check.due("the timer that is put on sees its own M-cycles", core.peek(0xFF05), 1);
        core.run(2);
        Check.due("FF05 written at COUNTER 7 goes on behind", core.peek(0xFF05), 100);
        Check.due("COUNTER", core.look(4), 10);
    }

    private static void inHalt() {
        GameCore core = Check.program(0xC000, "76 00");
        core.poke(0xFFFF, 4);
        core.poke(0xFF07, 5);
        core.poke(0xFF05, 254);
        Check.due("HALT till the timer, and on", core.run(9), 9);
        Check.due("HALT is left", core.look(2), 0);
        Check.due("PC", core.reg(5), 0xC002);
        Check.due("M-cycles", core.mcycles(), 9);
    }

    private static void interruptComesBehind() {
        GameCore core = Check.program(0xC000, "FB 00 00 00 00");
        core.set(4, 0xE000);
        core.poke(0xFFFF, 4);
        core.poke(0xFF07, 5);
        core.poke(0xFF05, 255);
        core.run(4);
        Check.due("IF behind the fourth", core.peek(0xFF0F), 4);
        Check.due("PC behind the fourth", core.reg(5), 0xC004);
        core.step();
        Check.due("DISPATCH of the timer", core.reg(5), 0x50);
        Check.due("M-cycles", core.mcycles(), 9);
        Check.due("COUNTER", core.look(4), 9);
    }

    /** "the COUNTER (0 .. 255, 0 at first) is 1 more (0 behind 255)"; FF04 at its multiples of 64. */
    private static void counterByEveryStep() {
        for (int part = 0; part < 4; part++) {
            GameCore core = new GameCore();
            if (part > 0) {
                core.run(part * 150);
            }
            for (int i = 1; i <= 150; i++) {
                core.step();
                int done = part * 150 + i;
                Check.due("COUNTER behind " + done, core.look(4), done % 256);
                Check.due("FF04 behind " + done, core.peek(0xFF04), done / 64);
            }
        }
    }

    /** "FF04 is 1 more (a byte)": 255 becomes 0, and IF and FF05 hear nothing of it. */
    private static void dividerAlone() {
        for (int before : new int[] {0, 1, 127, 254, 255}) {
            GameCore core = new GameCore();
            core.run(63);
            core.poke(0xFF04, before);
            core.poke(0xFF06, 55);
            core.step();
            Check.due("FF04 behind " + before, core.peek(0xFF04), (before + 1) & 255);
            Check.due("FF03 stays", core.peek(0xFF03), 0);
            Check.due("FF05 stays", core.peek(0xFF05), 0);
            Check.due("IF stays", core.peek(0xFF0F), 0);
        }
    }

    private static void reloadOfNought() {
        GameCore core = new GameCore();
        core.poke(0xFF07, 5);
        core.poke(0xFF05, 255);
        core.run(4);
        Check.due("FF05 by FF06 of 0", core.peek(0xFF05), 0);
        Check.due("IF", core.peek(0xFF0F), 4);
        core.poke(0xFF0F, 0);
        core.run(4);
        Check.due("FF05 goes on from 0", core.peek(0xFF05), 1);
        Check.due("IF without overflow", core.peek(0xFF0F), 0);
        core.run(254 * 4);
        Check.due("FF05 at 255", core.peek(0xFF05), 255);
        Check.due("IF at 255", core.peek(0xFF0F), 0);
        core.run(4);
        Check.due("FF05 behind 256 periods", core.peek(0xFF05), 0);
        Check.due("IF behind 256 periods", core.peek(0xFF0F), 4);
    }

    /** The timer comes "behind each STEP", so it sees what the instruction has written. */
    private static void reloadWrittenByTheSameStep() {
        GameCore core = Check.program(0xC000, "00 E0 06");
        core.set(0, 0x7700);
        core.poke(0xFF07, 5);
        core.poke(0xFF05, 255);
        core.poke(0xFF06, 1);
        core.run(2);
        Check.due("FF05 by the FF06 that was written", core.peek(0xFF05), 0x77);
        core = Check.program(0xC000, "00 E0 05");
        core.set(0, 0xFF00);
        core.poke(0xFF07, 5);
        core.poke(0xFF06, 9);
        core.run(2);
        Check.due("FF05 overflows from what was written", core.peek(0xFF05), 9);
        Check.due("IF", core.peek(0xFF0F), 4);
        core = Check.program(0xC000, "00 E0 07");
        core.poke(0xFF07, 5);
        core.poke(0xFF05, 255);
        core.run(2);
        Check.due("FF05 when the timer is put off", core.peek(0xFF05), 255);
        core = Check.program(0xC000, "00 E0 0F");
        core.poke(0xFF07, 5);
        core.poke(0xFF05, 255);
        core.run(2);
        Check.due("IF's bit 2 behind a write of 0", core.peek(0xFF0F), 4);
    }

    private static void overflowWithinADispatch() {
        GameCore core = Check.program(0xC000, "FB 00");
        core.run(2);
        core.set(4, 0xD000);
        core.poke(0xFFFF, 4);
        core.request(2);
        core.poke(0xFF07, 5);
        core.poke(0xFF06, 33);
        core.poke(0xFF05, 255);
        core.step();
        Check.due("PC", core.reg(5), 0x50);
        Check.due("FF05 behind the DISPATCH", core.peek(0xFF05), 33);
        Check.due("IF's bit 2 is 1 once more", core.peek(0xFF0F), 4);
        Check.due("COUNTER", core.look(4), 7);
    }

    private static void overflowTwiceWithinAStep() {
        GameCore core = Check.program(0xC000, "00 00 CD 00 D0");
        core.set(4, 0xE000);
        core.poke(0xFF07, 5);
        core.poke(0xFF05, 255);
        core.poke(0xFF06, 255);
        core.run(3);
        Check.due("FF05 behind two overflows", core.peek(0xFF05), 255);
        Check.due("IF", core.peek(0xFF0F), 4);
        core.poke(0xFF06, 254);
        core.poke(0xFF05, 255);
        core.run(4);
        Check.due("FF05 behind one", core.peek(0xFF05), 254);
    }

    /** A WRITE makes the COUNTER 0, but no M-cycle has come to a multiple by that. */
    private static void writeIsNoMultiple() {
        for (int select = 0; select < 4; select++) {
            GameCore core = Check.program(0xC000, "00 00 77");
            core.set(3, 0xFF04);
            core.poke(0xFF07, 4 + select);
            core.run(3);
            Check.due("FF04 behind its WRITE", core.peek(0xFF04), 0);
            Check.due("FF05 behind FF04's WRITE", core.peek(0xFF05), 0);
            Check.due("COUNTER behind FF04's WRITE", core.look(4), 2);
        }
        GameCore core = new GameCore();
        core.run(62);
        Check.put(core, 62, "77");
        core.set(3, 0xFF04);
        core.step();
        core.run(61);
        Check.due("FF04 at 63 M-cycles behind its WRITE", core.peek(0xFF04), 0);
        core.step();
        Check.due("FF04 at 64 M-cycles behind its WRITE", core.peek(0xFF04), 1);
    }

    /** "if FF07 has bit 2", "by FF07's lowest two bits"; its other bits count for nothing. */
    private static void controlByEachBit() {
        int[] within2000 = {7, 500, 125, 31};
        for (int control = 0; control < 256; control++) {
            GameCore core = new GameCore();
            core.poke(0xFF07, control);
            core.poke(0xFF06, 1);
            core.run(2000);
            int counted = (control & 4) == 0 ? 0 : within2000[control & 3];
            boolean over = counted > 255;
            Check.due("FF05 with FF07 of " + control, core.peek(0xFF05), over ? counted - 255 : counted);
            Check.due("IF with FF07 of " + control, core.peek(0xFF0F), over ? 4 : 0);
            Check.due("FF07 stays", core.peek(0xFF07), control);
            Check.due("FF04", core.peek(0xFF04), 31);
        }
    }

    /** A push over FF05, FF06 and FF07 is seen by its own M-cycles. */
    private static void timerOverItsOwnPlaces() {
        GameCore core = Check.program(0xC000, "C5 D5");
        core.set(1, 0x0500);
        core.set(2, 0x42FF);
        core.set(4, 0xFF08);
        core.poke(0xFF06, 9);
        core.step();
        Check.due("FF07 and FF06 are pushed", core.peek(0xFF07) * 256 + core.peek(0xFF06), 0x0500);
        Check.due("FF05 by the fourth M-cycle", core.peek(0xFF05), 1);
        core.set(4, 0xFF07);
        core.step();
        Check.due("FF05 by the eighth", core.peek(0xFF05), 0x42);
        Check.due("IF", core.peek(0xFF0F), 4);
    }
}
