/** Promises 8 and 9. */
final class RegisterTest {
    public static void main(String[] args) {
        ordinary();
        lowestBits();
        wrongOnes();
        halves();
        eachAlone();
        lowBitsOfF();
        setMovesNothingElse();
        Check.end();
    }

    private static void ordinary() {
        GameCore core = new GameCore();
        for (int i = 0; i < 6; i++) {
            Check.due("set(" + i + ")", core.set(i, 0x1110 * (i + 1)), true);
        }
        for (int i = 0; i < 6; i++) {
            Check.due("reg(" + i + ")", core.reg(i), 0x1110 * (i + 1));
        }
    }

    private static void lowestBits() {
        int[] values = {-1, 65535, 65536, 65551, 0x12345678, 15, 16, Integer.MIN_VALUE, Integer.MAX_VALUE};
        for (int v : values) {
            GameCore core = new GameCore();
            for (int i = 0; i < 6; i++) {
                Check.due("set(" + i + ", " + v + ")", core.set(i, v), true);
                Check.due("reg(" + i + ") behind " + v, core.reg(i), v & (i == 0 ? 0xFFF0 : 0xFFFF));
            }
        }
    }

    private static void wrongOnes() {
        GameCore core = new GameCore();
        for (int i : new int[] {-1, 6, 7, 8, -6, Integer.MIN_VALUE, Integer.MAX_VALUE}) {
            Check.due("set(" + i + ", 5)", core.set(i, 5), false);
            Check.due("reg(" + i + ")", core.reg(i), GameCore.NONE);
        }
        for (int i = 0; i < 6; i++) {
            Check.due("reg(" + i + ") stays", core.reg(i), 0);
        }
    }

    private static void halves() {
        GameCore core = Check.program(0xC000, "3E 11 06 22 0E 33 16 44 1E 55 26 66 2E 77");
        core.run(7);
        Check.due("A is the high half of AF", core.reg(0), 0x1100);
        Check.due("B, C", core.reg(1), 0x2233);
        Check.due("D, E", core.reg(2), 0x4455);
        Check.due("H, L", core.reg(3), 0x6677);
    }

    /** Each register's set() leaves the five others. */
    private static void eachAlone() {
        for (int i = 0; i < 6; i++) {
            GameCore core = new GameCore();
            core.set(i, 0xABCDEFF7);
            for (int k = 0; k < 6; k++) {
                int want = k != i ? 0 : k == 0 ? 0xEFF0 : 0xEFF7;
                Check.due("reg(" + k + ") behind set(" + i + ")", core.reg(k), want);
            }
        }
    }

    /** "(of AF the lowest four 0)": of AF alone, and all four of them. */
    private static void lowBitsOfF() {
        GameCore core = new GameCore();
        for (int low = 0; low < 32; low++) {
            Check.due("set(0, " + low + ")", core.set(0, low), true);
            Check.due("AF behind " + low, core.reg(0), low & 16);
            core.set(1, low);
            Check.due("BC behind " + low, core.reg(1), low);
        }
    }

    /** No EI, HALT, M-cycle or place of memory has to do with set(). */
    private static void setMovesNothingElse() {
        GameCore core = Check.program(0xC000, "FB 00");
        core.step();
        core.set(5, 0xD3D3);
        core.set(4, 0xFF05);
        core.set(3, 0xFF04);
        Check.state("EI, then set(5, ..)", core, 0xD3D3, 0, 1, 0, 0);
        Check.due("M-cycles", core.mcycles(), 1);
        Check.due("COUNTER", core.look(4), 1);
        core = Check.program(0xC000, "76");
        core.step();
        core.set(5, 0x1234);
        Check.due("step() in HALT", core.step(), 1);
        Check.state("HALT, then set(5, ..)", core, 0x1234, 0, 0, 1, 0);
    }
}
