import java.util.function.ToIntFunction;

/**
 * "And nothing happens": each promise's refused calls, and the steps that give 2, leave all that
 * can be seen as it was, whatever the object is about.
 */
final class RefusedTest {
    private static final int[] WRONG_PLACES = {
        Integer.MIN_VALUE, -65537, -65536, -16, -1, 65536, 65537, 131071, 131072, Integer.MAX_VALUE
    };
    private static final int[] WRONG_FEEDS = {
        Integer.MIN_VALUE, -65536, -16, -15, -1, 65521, 65528, 65535, 65536, 131072, Integer.MAX_VALUE - 15, Integer.MAX_VALUE
    };
    private static final int[] WRONG_NUMBERS = {Integer.MIN_VALUE, -2000, -1, 0, 2001, 4000, 65537, Integer.MAX_VALUE};
    private static final int[] WRONG_BITS = {Integer.MIN_VALUE, -32, -28, -1, 5, 6, 7, 8, 31, 32, 36, Integer.MAX_VALUE};
    private static final int[] WRONG_REGISTERS = {Integer.MIN_VALUE, -6, -1, 6, 7, 8, 65536, Integer.MAX_VALUE};
    private static final int[] WRONG_LOOKS = {Integer.MIN_VALUE, -5, -1, 5, 6, 8, 256, Integer.MAX_VALUE};
    private static final int[] NO_INSTRUCTIONS = {
        0x10, 0xD3, 0xDB, 0xDD, 0xE3, 0xE4, 0xEB, 0xEC, 0xED, 0xF4, 0xFC, 0xFD
    };

    /** What an object is about when the call comes. */
    private enum About { NOTHING, IME_ON, EI_WAITS, IN_HALT, LEAVING_HALT, HALT_BUG }

    public static void main(String[] args) {
        aboutIsWhatItSays();
        for (About about : About.values()) {
            refusedPokes(about);
            refusedFeeds(about);
            refusedRuns(about);
            refusedRequests(about);
            refusedSets(about);
            answersOfNone(about);
            if (about != About.IN_HALT) {
                stepsThatGiveTwo(about);
            }
        }
        Check.end();
    }

    /** PC is C003, where the opcode stands; the timer is on, and COUNTER and M-cycles are 3. */
    private static GameCore make(About about, int opcode) {
        GameCore core = new GameCore();
        core.feed(0, 0x11223344, 0x55667788, 0x3C3D3C3D, 0x3C000000);
        core.feed(0xBFF0, 0x01020304, 0x05060708, 0x090A0B0C, 0x0D0E0F10);
        core.feed(0xCFF0, 0xA1A2A3A4, 0xA5A6A7A8, 0xA9AAABAC, 0xADAEAFB0);
        core.feed(0xD000, 0xB1B2B3B4, 0xB5B6B7B8, 0xB9BABBBC, 0xBDBEBFC0);
        core.feed(0xFF00, 0x51525354, 0x559A3305, 0x595A5B5C, 0x5D5E5FED);
        core.feed(0xFFF0, 0x61626364, 0x65666768, 0x696A6B6C, 0x6D6E6F12);
        boolean bug = about == About.HALT_BUG;
        core.poke(0xFFFF, bug ? 0x13 : 0x12);
        core.feed(0xC000, code(about) << 8 | opcode, 0x3C043C04, 0x77233C18, 0xFC000000);
        int[] words = {0x4770, 0x1234, 0x5678, 0xD008, 0xD000, 0xC000};
        for (int i = 0; i < words.length; i++) {
            core.set(i, words[i]);
        }
        core.run(3);
        if (about == About.LEAVING_HALT) {
            core.poke(0xFFFF, 0x13);
        }
        return core;
    }

    private static int code(About about) {
        switch (about) {
            case IME_ON: return 0xFB0000;
            case EI_WAITS: return 0x0000FB;
            case NOTHING: return 0x000000;
            default: return 0x000076;
        }
    }

    private static void aboutIsWhatItSays() {
        for (About about : About.values()) {
            GameCore core = make(about, 0);
            Check.due(about + ": IME", core.look(0), about == About.IME_ON ? 1 : 0);
            Check.due(about + ": an EI waits", core.look(1), about == About.EI_WAITS ? 1 : 0);
            boolean halt = about == About.IN_HALT || about == About.LEAVING_HALT;
            Check.due(about + ": HALT", core.look(2), halt ? 1 : 0);
            Check.due(about + ": HALT BUG", core.look(3), about == About.HALT_BUG ? 1 : 0);
            Check.due(about + ": COUNTER", core.look(4), 3);
            Check.due(about + ": M-cycles", core.mcycles(), 3);
            Check.due(about + ": PC", core.reg(5), 0xC003);
        }
    }

    private static void refused(About about, String what, ToIntFunction<GameCore> call, int want) {
        Twins.stayAlike(about + ": " + what, () -> make(about, 0), call, want);
    }

    private static int number(boolean answer) {
        return answer ? 1 : 0;
    }

    /** Promise 2: "false, and nothing happens, for another place than 0 .. 65535". */
    private static void refusedPokes(About about) {
        for (int place : WRONG_PLACES) {
            refused(about, "poke(" + place + ", 238)", core -> number(core.poke(place, 238)), 0);
        }
    }

    /** Promise 3: "false, and nothing happens, if one of their places is beyond 0 .. 65535". */
    private static void refusedFeeds(About about) {
        for (int place : WRONG_FEEDS) {
            refused(about, "feed(" + place + ", ..)",
                core -> number(core.feed(place, 0xEEEEEEEE, 0xEEEEEEEE, 0xEEEEEEEE, 0xEEEEEEEE)), 0);
        }
    }

    /** Promise 6: "NONE, and nothing happens, for another n". */
    private static void refusedRuns(About about) {
        for (int n : WRONG_NUMBERS) {
            refused(about, "run(" + n + ")", core -> core.run(n), GameCore.NONE);
        }
    }

    /** Promise 7: "false, and nothing happens, for another one". */
    private static void refusedRequests(About about) {
        for (int bit : WRONG_BITS) {
            refused(about, "request(" + bit + ")", core -> number(core.request(bit)), 0);
        }
    }

    /** Promise 9: "false, and nothing happens, for another one". */
    private static void refusedSets(About about) {
        for (int i : WRONG_REGISTERS) {
            refused(about, "set(" + i + ", 61166)", core -> number(core.set(i, 0xEEEE)), 0);
        }
    }

    /** Promises 4, 8 and 10: "NONE for another place", "for another one", "for another what". */
    private static void answersOfNone(About about) {
        for (int place : WRONG_PLACES) {
            refused(about, "peek(" + place + ")", core -> core.peek(place), GameCore.NONE);
        }
        for (int i : WRONG_REGISTERS) {
            refused(about, "reg(" + i + ")", core -> core.reg(i), GameCore.NONE);
        }
        for (int what : WRONG_LOOKS) {
            refused(about, "look(" + what + ")", core -> core.look(what), GameCore.NONE);
        }
    }

    /** Point 3: "gives 2, nothing at all is changed (HALT, the HALT BUG stand as they stood)", and EI: "2 lets it wait". */
    private static void stepsThatGiveTwo(About about) {
        for (int opcode : NO_INSTRUCTIONS) {
            String what = about + " at " + Integer.toHexString(opcode);
            Twins.stayAlike(what + ": step()", () -> make(about, opcode), GameCore::step, 2);
            Twins.stayAlike(what + ": run(1)", () -> make(about, opcode), core -> core.run(1), 0);
            Twins.stayAlike(what + ": run(2000)", () -> make(about, opcode), core -> core.run(2000), 0);
            goesOnWhenTheByteIsMended(what, about, opcode);
        }
    }

    /** As the twin goes on that never came to the byte. */
    private static void goesOnWhenTheByteIsMended(String what, About about, int opcode) {
        GameCore stopped = make(about, opcode);
        GameCore other = make(about, 0x3C);
        stopped.step();
        stopped.poke(0xC003, 0x3C);
        for (int i = 0; i < 8; i++) {
            Check.due(what + ", mended: step()", stopped.step(), other.step());
            Check.due(what + ", mended: AF", stopped.reg(0), other.reg(0));
            Check.due(what + ", mended: PC", stopped.reg(5), other.reg(5));
            for (int k = 0; k < 5; k++) {
                Check.due(what + ", mended: look(" + k + ")", stopped.look(k), other.look(k));
            }
            Check.due(what + ", mended: mcycles()", stopped.mcycles(), other.mcycles());
        }
    }
}
