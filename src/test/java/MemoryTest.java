/** Promises 1 to 4, and what an instruction's WRITE does that poke does not. */
final class MemoryTest {
    public static void main(String[] args) {
        newObject();
        pokeAndPeek();
        wrongPlaces();
        feed();
        feedAtTheEnds();
        pokeIsNoWrite();
        writesToTheDivider();
        Check.end();
    }

    private static void newObject() {
        GameCore core = new GameCore();
        for (int i = 0; i < 6; i++) {
            Check.due("new reg(" + i + ")", core.reg(i), 0);
        }
        for (int i = 0; i < 5; i++) {
            Check.due("new look(" + i + ")", core.look(i), 0);
        }
        Check.due("new mcycles()", core.mcycles(), 0);
        for (int first = 0; first < 65536; first += 512) {
            GameCore other = new GameCore();
            for (int place = first; place < first + 512; place++) {
                Check.due("new peek(" + place + ")", other.peek(place), 0);
            }
        }
        core.poke(5, 7);
        core.set(1, 9);
        GameCore other = new GameCore();
        Check.due("another object's peek(5)", other.peek(5), 0);
        Check.due("another object's reg(1)", other.reg(1), 0);
    }

    private static void pokeAndPeek() {
        GameCore core = new GameCore();
        int[] places = {0, 1, 255, 256, 0x7FFF, 0x8000, 0xFF04, 0xFF0F, 65534, 65535};
        int[] values = {0, 1, 127, 128, 255, 256, 511, -1, -256, 0x12345678, Integer.MIN_VALUE, Integer.MAX_VALUE};
        for (int place : places) {
            for (int v : values) {
                Check.due("poke(" + place + ", " + v + ")", core.poke(place, v), true);
                Check.due("peek(" + place + ") behind " + v, core.peek(place), v & 255);
            }
        }
        GameCore neighbours = new GameCore();
        neighbours.poke(1000, 200);
        Check.due("peek(999)", neighbours.peek(999), 0);
        Check.due("peek(1000)", neighbours.peek(1000), 200);
        Check.due("peek(1001)", neighbours.peek(1001), 0);
    }

    private static void wrongPlaces() {
        GameCore core = new GameCore();
        for (int place : new int[] {-1, -2, -65536, 65536, 65537, 131072, Integer.MIN_VALUE, Integer.MAX_VALUE}) {
            Check.due("poke(" + place + ", 77)", core.poke(place, 77), false);
            Check.due("peek(" + place + ")", core.peek(place), GameCore.NONE);
            Check.due("place 0 stays", core.peek(0), 0);
            Check.due("place 65535 stays", core.peek(65535), 0);
            Check.due("place 1 stays", core.peek(1), 0);
        }
    }

    private static void feed() {
        GameCore core = new GameCore();
        Check.due("feed(1000, ..)", core.feed(1000, 0x01020304, 0xF5060708, 0x090A0B8C, -2), true);
        int[] want = {0, 1, 2, 3, 4, 0xF5, 6, 7, 8, 9, 10, 11, 0x8C, 255, 255, 255, 254, 0};
        for (int i = 0; i < want.length; i++) {
            Check.due("fed place " + (999 + i), core.peek(999 + i), want[i]);
        }
    }

    private static void feedAtTheEnds() {
        GameCore core = new GameCore();
        Check.due("feed(65520, ..)", core.feed(65520, 0x11000000, 0, 0, 0x22), true);
        Check.due("its first place", core.peek(65520), 0x11);
        Check.due("its last place", core.peek(65535), 0x22);
        Check.due("no wrap to 0", core.peek(0), 0);
        Check.due("feed(0, ..)", core.feed(0, 0x33000000, 0, 0, 0x44), true);
        Check.due("place 0", core.peek(0), 0x33);
        Check.due("place 15", core.peek(15), 0x44);
        int[] wrong = {-1, -15, -16, 65521, 65535, 65536, Integer.MIN_VALUE, Integer.MAX_VALUE, Integer.MAX_VALUE - 14};
        for (int place : wrong) {
            Check.due("feed(" + place + ", ..)", core.feed(place, -1, -1, -1, -1), false);
            Check.due("place 0 stays", core.peek(0), 0x33);
            Check.due("place 14 stays", core.peek(14), 0);
            Check.due("place 65521 stays", core.peek(65521), 0);
            Check.due("place 65535 stays", core.peek(65535), 0x22);
        }
    }

    private static void pokeIsNoWrite() {
        GameCore core = Check.program(0xC000, "00 00 00");
        core.run(3);
        core.poke(0xFF04, 99);
        Check.due("FF04 as poked", core.peek(0xFF04), 99);
        Check.due("COUNTER behind a poke", core.look(4), 3);
        core.feed(0xFF00, 0, 0x58000000, 0, 0);
        Check.due("FF04 as fed", core.peek(0xFF04), 0x58);
        Check.due("COUNTER behind a feed", core.look(4), 3);
    }

    private static void writesToTheDivider() {
        dividerBecomesZero("LD (a16),A", "EA 04 FF", 4);
        dividerBecomesZero("LDH (a8),A", "E0 04", 3);
        dividerBecomesZero("LD (HL),A", "77", 2);
        dividerBecomesZero("LD (HL+),A", "22", 2);
        dividerBecomesZero("LD (HL),d8", "36 55", 3);
        dividerBecomesZero("INC (HL)", "34", 3);
        dividerBecomesZero("SET 7,(HL)", "CB FE", 4);
        dividerBecomesZero("LD (FF00+C),A", "E2", 2);
        dividerBecomesZero("LD (a16),SP low", "08 04 FF", 5);
        dividerBecomesZero("LD (a16),SP high", "08 03 FF", 5);
        dividerBecomesZero("PUSH, high byte", "31 05 FF C5", 7);
        dividerBecomesZero("PUSH, low byte", "31 06 FF C5", 7);
        dividerBecomesZero("RST", "31 06 FF FF", 7);
        GameCore core = Check.program(0xC000, "00 00 CB 7E 46 00");
        core.poke(0xFF04, 80);
        core.set(3, 0xFF04);
        core.run(4);
        Check.due("FF04 behind reads", core.peek(0xFF04), 80);
        Check.due("COUNTER behind reads", core.look(4), 7);
        Check.due("B has read it", core.reg(1), 80 * 256);
    }

    /** The COUNTER is 0 by the WRITE, and the instruction's own M-cycles come behind that. */
    private static void dividerBecomesZero(String what, String bytes, int cycles) {
        GameCore core = Check.program(0xC000, "00 00 00 00 00 " + bytes);
        core.poke(0xFF04, 80);
        core.set(0, 0x7700);
        core.set(1, 0x0404);
        core.set(3, 0xFF04);
        core.set(4, 0x1234);
        core.run(5);
        Check.due(what + ": COUNTER ahead", core.look(4), 5);
        int steps = bytes.startsWith("31") ? 2 : 1;
        core.run(steps);
        Check.due(what + ": FF04", core.peek(0xFF04), 0);
        Check.due(what + ": COUNTER", core.look(4), steps == 2 ? 4 : cycles);
        Check.due(what + ": mcycles", core.mcycles(), 5 + cycles);
    }
}
