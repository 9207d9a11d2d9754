/** Promises 8 and 9. */
final class RegisterTest {
    public static void main(String[] args) {
        ordinary();
        lowestBits();
        wrongOnes();
        halves();
        Check.end();
    }

    private static void ordinary() {
        GameCore core = new GameCore();
        for (int i = 0; i < 6; i++) {
            Check.due("set(" + i + ")", core.set(i, 0x1110 * (i + 1)), true);
        }
        for (int i = 0; i < 6; i++) {
            Check.due("reg(" + i + ")", core.reg(i), 0x1110 * (i + 1));
        }
    }

    private static void lowestBits() {
        int[] values = {-1, 65535, 65536, 65551, 0x12345678, 15, 16, Integer.MIN_VALUE, Integer.MAX_VALUE};
        for (int v : values) {
            GameCore core = new GameCore();
            for (int i = 0; i < 6; i++) {
                Check.due("set(" + i + ", " + v + ")", core.set(i, v), true);
                Check.due("reg(" + i + ") behind " + v, core.reg(i), v & (i == 0 ? 0xFFF0 : 0xFFFF));
            }
        }
    }

    private static void wrongOnes() {
        GameCore core = new GameCore();
        for (int i : new int[] {-1, 6, 7, 8, -6, Integer.MIN_VALUE, Integer.MAX_VALUE}) {
            Check.due("set(" + i + ", 5)", core.set(i, 5), false);
            Check.due("reg(" + i + ")", core.reg(i), GameCore.NONE);
        }
        for (int i = 0; i < 6; i++) {
            Check.due("reg(" + i + ") stays", core.reg(i), 0);
        }
    }

    private static void halves() {
        GameCore core = Check.program(0xC000, "3E 11 06 22 0E 33 16 44 1E 55 26 66 2E 77");
        core.run(7);
        Check.due("A is the high half of AF", core.reg(0), 0x1100);
        Check.due("B, C", core.reg(1), 0x2233);
        Check.due("D, E", core.reg(2), 0x4455);
        Check.due("H, L", core.reg(3), 0x6677);
    }
}
