/** Counts the answers of one test and prints those that are not due. */
final class Check {
    private static int right = 0;
    private static int wrong = 0;

    private Check() {
    }

    static void due(String what, long got, long want) {
        if (got == want) {
            right++;
        } else {
            wrong++;
            System.out.println(what + " answered " + got + ", due is " + want);
        }
    }

    static void due(String what, boolean got, boolean want) {
        due(what, got ? 1 : 0, want ? 1 : 0);
    }

    static void state(String what, GameCore core, int pc, int ime, int waits, int halt, int bug) {
        due(what + ": PC", core.reg(5), pc);
        due(what + ": IME", core.look(0), ime);
        due(what + ": an EI waits", core.look(1), waits);
        due(what + ": HALT", core.look(2), halt);
        due(what + ": HALT BUG", core.look(3), bug);
    }

    static int wrongSoFar() {
        return wrong;
    }

    static void end() {
        System.out.println("  " + right + " answers as due, " + wrong + " not");
        if (wrong != 0 || right == 0) {
            System.exit(1);
        }
    }

    /** A new object with the bytes of a text in hexadecimal from a place on, and PC there. */
    static GameCore program(int place, String bytes) {
        GameCore core = new GameCore();
        put(core, place, bytes);
        core.set(5, place);
        return core;
    }

    static void put(GameCore core, int place, String bytes) {
        int at = place;
        for (String text : bytes.trim().split(" +")) {
            core.poke(at & 0xFFFF, Integer.parseInt(text, 16));
            at++;
        }
    }
}
