/** Promises 6 and 11. */
final class RunTest {
    public static void main(String[] args) {
        ordinary();
        tillNoInstruction();
        haltCounts();
        wrongNumbers();
        mcyclesAddUp();
        mostSteps();
        lastStepThatCounts();
        dispatchesCount();
        sameAsSteps();
        the512thCall();
        mcyclesWrap();
        Check.end();
    }

    private static void ordinary() {
        for (int n : new int[] {1, 2, 100, 1999, 2000}) {
            GameCore core = new GameCore();
            Check.due("run(" + n + ")", core.run(n), n);
            Check.due("PC behind run(" + n + ")", core.reg(5), n);
            Check.due("M-cycles behind run(" + n + ")", core.mcycles(), n);
        }
    }

    private static void tillNoInstruction() {
        GameCore core = Check.program(0xC000, "3C 3C 3C 10 3C");
        Check.due("run(3)", core.run(3), 3);
        Check.due("run(3) at STOP", core.run(3), 0);
        Check.due("A", core.reg(0) >> 8, 3);
        core.set(5, 0xC001);
        Check.due("run(2000) till STOP", core.run(2000), 2);
        Check.due("A", core.reg(0) >> 8, 5);
        Check.due("PC", core.reg(5), 0xC003);
        core.poke(0xC003, 0);
        core.poke(0xC005, 0xFD);
        Check.due("run(5) till FD", core.run(5), 2);
        Check.due("A", core.reg(0) >> 8, 6);
    }

    private static void haltCounts() {
        GameCore core = Check.program(0xC000, "76 00");
        Check.due("run(50) in HALT", core.run(50), 50);
        Check.due("M-cycles", core.mcycles(), 50);
        Check.due("PC", core.reg(5), 0xC001);
    }

    private static void wrongNumbers() {
        GameCore core = Check.program(0xC000, "00");
        for (int n : new int[] {0, -1, 2001, 2002, 65536, Integer.MIN_VALUE, Integer.MAX_VALUE}) {
            Check.due("run(" + n + ")", core.run(n), GameCore.NONE);
            Check.due("PC stays", core.reg(5), 0xC000);
            Check.due("M-cycles stay", core.mcycles(), 0);
        }
    }

    /** 250 runs of CALL to itself come to 3,000,000 M-cycles, far beyond 16 bits. */
    private static void mcyclesAddUp() {
        GameCore core = Check.program(0xC000, "CD 00 C0");
        for (int i = 1; i <= 250; i++) {
            core.set(4, 0xF000);
            Check.due("run(2000) of CALL", core.run(2000), 2000);
        }
        Check.due("M-cycles", core.mcycles(), 250 * 2000 * 6);
    }

    /** "n at most (1 .. 2000)": both ends are taken, and both beyond are not. */
    private static void mostSteps() {
        GameCore core = new GameCore();
        Check.due("run(0)", core.run(0), GameCore.NONE);
        Check.due("run(1)", core.run(1), 1);
        Check.due("PC behind run(1)", core.reg(5), 1);
        Check.due("run(2001)", core.run(2001), GameCore.NONE);
        Check.due("PC behind run(2001)", core.reg(5), 1);
        Check.due("run(2000)", core.run(2000), 2000);
        Check.due("PC behind run(2000)", core.reg(5), 2001);
        Check.due("run(-1)", core.run(-1), GameCore.NONE);
        Check.due("M-cycles", core.mcycles(), 2001);
    }

    /** "till one gives 2: how many gave 0 or 1": around n, and none at all. */
    private static void lastStepThatCounts() {
        for (int place : new int[] {0, 1, 2, 4, 5, 6, 1999, 2000}) {
            for (int n : new int[] {1, 5, 2000}) {
                GameCore core = new GameCore();
                core.poke(place, 0xED);
                int want = Math.min(place, n);
                Check.due("run(" + n + ") with ED at " + place, core.run(n), want);
                Check.due("its PC", core.reg(5), want);
                Check.due("its M-cycles", core.mcycles(), want);
                Check.due("its COUNTER", core.look(4), want % 256);
            }
        }
        GameCore core = Check.program(0xC000, "76 D3");
        core.poke(0xFFFF, 4);
        core.poke(0xFF07, 5);
        core.poke(0xFF05, 255);
        Check.due("HALT, three in HALT, then 2", core.run(2000), 4);
        Check.due("HALT stands", core.look(2), 1);
    }

    private static void dispatchesCount() {
        GameCore core = Check.program(0xC000, "FB 00 D3");
        core.set(4, 0xD000);
        core.poke(0xFFFF, 3);
        core.poke(0xFF0F, 3);
        core.poke(0x40, 0xD9);
        core.poke(0x48, 0xD9);
        Check.due("EI, NOP, DISPATCH, RETI, DISPATCH, RETI, then 2", core.run(2000), 6);
        Check.due("PC", core.reg(5), 0xC002);
        Check.due("M-cycles", core.mcycles(), 2 + 5 + 4 + 5 + 4);
    }

    /** "STEPS one by one". */
    private static void sameAsSteps() {
        String bytes = "06 03 0E 10 0D 20 FD 05 20 F8 76 E8 05 CB 30 C5 D1 10";
        GameCore ran = Check.program(0xC000, bytes);
        GameCore stepped = Check.program(0xC000, bytes);
        for (GameCore core : new GameCore[] {ran, stepped}) {
            core.set(4, 0xD000);
            core.poke(0xFFFF, 4);
            core.poke(0xFF07, 6);
            core.poke(0xFF05, 250);
        }
        int taken = ran.run(400);
        int steps = 0;
        while (steps < 400 && stepped.step() != 2) {
            steps++;
        }
        Check.due("steps taken", taken, steps);
        for (int i = 0; i < 6; i++) {
            Check.due("reg(" + i + ") by run and by steps", ran.reg(i), stepped.reg(i));
        }
        for (int i = 0; i < 5; i++) {
            Check.due("look(" + i + ") by run and by steps", ran.look(i), stepped.look(i));
        }
        Check.due("mcycles() by run and by steps", ran.mcycles(), stepped.mcycles());
        Check.due("FF05 by run and by steps", ran.peek(0xFF05), stepped.peek(0xFF05));
    }

    /** "An object is used for at most 512 calls": the last of them still answers. */
    private static void the512thCall() {
        GameCore core = Check.program(0xC000, "18 FE");
        int made = 3;
        for (int calls = made + 1; calls <= 510; calls++) {
            core.run(2000);
        }
        Check.due("the 511th call", core.reg(5), 0xC000);
        Check.due("the 512th call", core.mcycles(), (510 - made) * 2000 * 3);
    }

    /**
     * "modulo 2 to the 30". No 512 calls come that far, and beyond them all answers are free; but
     * this is the only way to see the wrap, so this one object is used for longer.
     */
    private static void mcyclesWrap() {
        int wrap = 1 << 30;
        int perRun = 2000 * 6;
        GameCore core = Check.program(0xC000, "CD 00 C0");
        for (int i = 0; i < wrap / perRun; i++) {
            core.set(4, 0xF000);
            core.run(2000);
        }
        int done = wrap / perRun * perRun;
        Check.due("M-cycles behind all runs", core.mcycles(), done);
        core.set(4, 0xF000);
        core.run((wrap - 1 - done) / 6);
        core.set(5, 0x1000);
        core.run((wrap - 1 - done) % 6);
        Check.due("the last number below 2 to the 30", core.mcycles(), wrap - 1);
        core.step();
        Check.due("0 behind it", core.mcycles(), 0);
        core.step();
        Check.due("1 behind that", core.mcycles(), 1);
    }
}
