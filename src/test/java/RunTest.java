/** Promises 6 and 11. */
final class RunTest {
    public static void main(String[] args) {
        ordinary();
        tillNoInstruction();
        haltCounts();
        wrongNumbers();
        mcyclesAddUp();
        Check.end();
    }

    private static void ordinary() {
        for (int n : new int[] {1, 2, 100, 1999, 2000}) {
            GameCore core = new GameCore();
            Check.due("run(" + n + ")", core.run(n), n);
            Check.due("PC behind run(" + n + ")", core.reg(5), n);
            Check.due("M-cycles behind run(" + n + ")", core.mcycles(), n);
        }
    }

    private static void tillNoInstruction() {
        GameCore core = Check.program(0xC000, "3C 3C 3C 10 3C");
        Check.due("run(3)", core.run(3), 3);
        Check.due("run(3) at STOP", core.run(3), 0);
        Check.due("A", core.reg(0) >> 8, 3);
        core.set(5, 0xC001);
        Check.due("run(2000) till STOP", core.run(2000), 2);
        Check.due("A", core.reg(0) >> 8, 5);
        Check.due("PC", core.reg(5), 0xC003);
        core.poke(0xC003, 0);
        core.poke(0xC005, 0xFD);
        Check.due("run(5) till FD", core.run(5), 2);
        Check.due("A", core.reg(0) >> 8, 6);
    }

    private static void haltCounts() {
        GameCore core = Check.program(0xC000, "76 00");
        Check.due("run(50) in HALT", core.run(50), 50);
        Check.due("M-cycles", core.mcycles(), 50);
        Check.due("PC", core.reg(5), 0xC001);
    }

    private static void wrongNumbers() {
        GameCore core = Check.program(0xC000, "00");
        for (int n : new int[] {0, -1, 2001, 2002, 65536, Integer.MIN_VALUE, Integer.MAX_VALUE}) {
            Check.due("run(" + n + ")", core.run(n), GameCore.NONE);
            Check.due("PC stays", core.reg(5), 0xC000);
            Check.due("M-cycles stay", core.mcycles(), 0);
        }
    }

    /** 250 runs of CALL to itself come to 3,000,000 M-cycles, far beyond 16 bits. */
    private static void mcyclesAddUp() {
        GameCore core = Check.program(0xC000, "CD 00 C0");
        for (int i = 1; i <= 250; i++) {
            core.set(4, 0xF000);
            Check.due("run(2000) of CALL", core.run(2000), 2000);
        }
        Check.due("M-cycles", core.mcycles(), 250 * 2000 * 6);
    }
}
