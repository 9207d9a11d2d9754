/** Promises 1 to 4, and what an instruction's WRITE does that poke does not. */
final class MemoryTest {
    public static void main(String[] args) {
        newObject();
        pokeAndPeek();
        wrongPlaces();
        feed();
        feedAtTheEnds();
        pokeIsNoWrite();
        writesToTheDivider();
        plainPlaces();
        pokeIntoTheTimer();
        feedOverTheLastPlaces();
        Check.end();
    }

    private static void newObject() {
        GameCore core = new GameCore();
        for (int i = 0; i < 6; i++) {
            Check.due("new reg(" + i + ")", core.reg(i), 0);
        }
        for (int i = 0; i < 5; i++) {
            Check.due("new look(" + i + ")", core.look(i), 0);
        }
        Check.due("new mcycles()", core.mcycles(), 0);
        for (int first = 0; first < 65536; first += 512) {
            GameCore other = new GameCore();
            for (int place = first; place < first + 512; place++) {
                Check.due("new peek(" + place + ")", other.peek(place), 0);
            }
        }
        core.poke(5, 7);
        core.set(1, 9);
        GameCore other = new GameCore();
        Check.due("another object's peek(5)", other.peek(5), 0);
        Check.due("another object's reg(1)", other.reg(1), 0);
    }

    private static void pokeAndPeek() {
        GameCore core = new GameCore();
        int[] places = {0, 1, 255, 256, 0x7FFF, 0x8000, 0xFF04, 0xFF0F, 65534, 65535};
        int[] values = {0, 1, 127, 128, 255, 256, 511, -1, -256, 0x12345678, Integer.MIN_VALUE, Integer.MAX_VALUE};
        for (int place : places) {
            for (int v : values) {
                Check.due("poke(" + place + ", " + v + ")", core.poke(place, v), true);
                Check.due("peek(" + place + ") behind " + v, core.peek(place), v & 255);
            }
        }
        GameCore neighbours = new GameCore();
        neighbours.poke(1000, 200);
        Check.due("peek(999)", neighbours.peek(999), 0);
        Check.due("peek(1000)", neighbours.peek(1000), 200);
        Check.due("peek(1001)", neighbours.peek(1001), 0);
    }

    private static void wrongPlaces() {
        GameCore core = new GameCore();
        for (int place : new int[] {-1, -2, -65536, 65536, 65537, 131072, Integer.MIN_VALUE, Integer.MAX_VALUE}) {
            Check.due("poke(" + place + ", 77)", core.poke(place, 77), false);
            Check.due("peek(" + place + ")", core.peek(place), GameCore.NONE);
            Check.due("place 0 stays", core.peek(0), 0);
            Check.due("place 65535 stays", core.peek(65535), 0);
            Check.due("place 1 stays", core.peek(1), 0);
        }
    }

    private static void feed() {
        GameCore core = new GameCore();
        Check.due("feed(1000, ..)", core.feed(1000, 0x01020304, 0xF5060708, 0x090A0B8C, -2), true);
        int[] want = {0, 1, 2, 3, 4, 0xF5, 6, 7, 8, 9, 10, 11, 0x8C, 255, 255, 255, 254, 0};
        for (int i = 0; i < want.length; i++) {
            Check.due("fed place " + (999 + i), core.peek(999 + i), want[i]);
        }
    }

    private static void feedAtTheEnds() {
        GameCore core = new GameCore();
        Check.due("feed(65520, ..)", core.feed(65520, 0x11000000, 0, 0, 0x22), true);
        Check.due("its first place", core.peek(65520), 0x11);
        Check.due("its last place", core.peek(65535), 0x22);
        Check.due("no wrap to 0", core.peek(0), 0);
        Check.due("feed(0, ..)", core.feed(0, 0x33000000, 0, 0, 0x44), true);
        Check.due("place 0", core.peek(0), 0x33);
        Check.due("place 15", core.peek(15), 0x44);
        int[] wrong = {-1, -15, -16, 65521, 65535, 65536, Integer.MIN_VALUE, Integer.MAX_VALUE, Integer.MAX_VALUE - 14};
        for (int place : wrong) {
            Check.due("feed(" + place + ", ..)", core.feed(place, -1, -1, -1, -1), false);
            Check.due("place 0 stays", core.peek(0), 0x33);
            Check.due("place 14 stays", core.peek(14), 0);
            Check.due("place 65521 stays", core.peek(65521), 0);
            Check.due("place 65535 stays", core.peek(65535), 0x22);
        }
    }

    private static void pokeIsNoWrite() {
        GameCore core = Check.program(0xC000, "00 00 00");
        core.run(3);
        core.poke(0xFF04, 99);
        Check.due("FF04 as poked", core.peek(0xFF04), 99);
        Check.due("COUNTER behind a poke", core.look(4), 3);
        core.feed(0xFF00, 0, 0x58000000, 0, 0);
        Check.due("FF04 as fed", core.peek(0xFF04), 0x58);
        Check.due("COUNTER behind a feed", core.look(4), 3);
    }

    private static void writesToTheDivider() {
        dividerBecomesZero("LD (a16),A", "EA 04 FF", 4);
        dividerBecomesZero("LDH (a8),A", "E0 04", 3);
        dividerBecomesZero("LD (HL),A", "77", 2);
        dividerBecomesZero("LD (HL+),A", "22", 2);
        dividerBecomesZero("LD (HL-),A", "32", 2);
        dividerBecomesZero("LD (HL),B", "70", 2);
        dividerBecomesZero("LD (BC),A", "01 04 FF 02", 5);
        dividerBecomesZero("LD (DE),A", "11 04 FF 12", 5);
        dividerBecomesZero("LD (HL),d8", "36 55", 3);
        dividerBecomesZero("INC (HL)", "34", 3);
        dividerBecomesZero("DEC (HL)", "35", 3);
        dividerBecomesZero("RLC (HL)", "CB 06", 4);
        dividerBecomesZero("SWAP (HL)", "CB 36", 4);
        dividerBecomesZero("RES 0,(HL)", "CB 86", 4);
        dividerBecomesZero("SET 7,(HL)", "CB FE", 4);
        dividerBecomesZero("LD (FF00+C),A", "E2", 2);
        dividerBecomesZero("LD (a16),SP low", "08 04 FF", 5);
        dividerBecomesZero("LD (a16),SP high", "08 03 FF", 5);
        dividerBecomesZero("PUSH, high byte", "31 05 FF C5", 7);
        dividerBecomesZero("PUSH, low byte", "31 06 FF C5", 7);
        dividerBecomesZero("RST", "31 06 FF FF", 7);
        dividerBecomesZero("RST, high byte", "31 05 FF FF", 7);
        dividerBecomesZero("CALL", "31 06 FF CD 00 10", 9);
        dividerBecomesZero("CALL, high byte", "31 05 FF CD 00 10", 9);
        GameCore core = Check.program(0xC000, "00 00 CB 7E 46 00");
        core.poke(0xFF04, 80);
        core.set(3, 0xFF04);
        core.run(4);
        Check.due("FF04 behind reads", core.peek(0xFF04), 80);
        Check.due("COUNTER behind reads", core.look(4), 7);
        Check.due("B has read it", core.reg(1), 80 * 256);
    }

    /** The COUNTER is 0 by the WRITE, and the instruction's own M-cycles come behind that. */
    private static void dividerBecomesZero(String what, String bytes, int cycles) {
        GameCore core = Check.program(0xC000, "00 00 00 00 00 " + bytes);
        core.poke(0xFF04, 80);
        core.set(0, 0x7700);
        core.set(1, 0x0404);
        core.set(3, 0xFF04);
        core.set(4, 0x1234);
        core.run(5);
        Check.due(what + ": COUNTER ahead", core.look(4), 5);
        int steps = bytes.length() > 2 && "01 11 31".contains(bytes.substring(0, 2)) ? 2 : 1;
        core.run(steps);
        Check.due(what + ": FF04", core.peek(0xFF04), 0);
        Check.due(what + ": COUNTER", core.look(4), steps == 2 ? cycles - 3 : cycles);
        Check.due(what + ": mcycles", core.mcycles(), 5 + cycles);
    }

    /** "every place is plain memory .. to instructions": no bit is forced, no place mirrors another. */
    private static void plainPlaces() {
        int[] places = {
            0, 0x0100, 0x1FFF, 0x4000, 0x7FFF, 0x8000, 0xA000, 0xDFFF, 0xE000, 0xFDFF, 0xFE00, 0xFEA0, 0xFF00, 0xFF01,
            0xFF02, 0xFF03, 0xFF05, 0xFF06, 0xFF07, 0xFF0F, 0xFF26, 0xFF40, 0xFF41, 0xFF44, 0xFF46, 0xFF50, 0xFF80, 0xFFFF
        };
        for (int place : places) {
            for (int v : new int[] {0xFA, 0x00, 0x58}) {
                GameCore core = Check.program(0xC000, "77 7E");
                core.poke(place, ~v);
                core.set(0, v << 8);
                core.set(3, place);
                core.step();
                Check.due("what is written to " + place, core.peek(place), v);
                core.set(0, 0);
                core.step();
                Check.due("what is read from " + place, core.reg(0), v << 8);
                Check.due("no echo below", place == 0xE000 ? core.peek(0xC000) : 0x77, 0x77);
            }
        }
    }

    /** poke() and feed() into the timer's places and IF, IE: as they are, and no step by that. */
    private static void pokeIntoTheTimer() {
        GameCore core = Check.program(0xC000, "00 00 00");
        core.run(3);
        for (int place : new int[] {0xFF04, 0xFF05, 0xFF06, 0xFF07, 0xFF0F, 0xFFFF}) {
            for (int v : new int[] {0, 1, 255, 256 + 77, -1}) {
                core.poke(place, v);
                Check.due("peek(" + place + ") behind " + v, core.peek(place), v & 255);
            }
        }
        core.feed(0xFF00, -1, -1, -1, -1);
        Check.due("COUNTER", core.look(4), 3);
        Check.due("M-cycles", core.mcycles(), 3);
        Check.state("no step by that", core, 0xC003, 0, 0, 0, 0);
    }

    /** Places 65520 to 65535 are the last sixteen; one more is beyond. */
    private static void feedOverTheLastPlaces() {
        GameCore core = new GameCore();
        Check.due("feed(65521, ..)", core.feed(65521, -1, -1, -1, -1), false);
        for (int place = 65521; place < 65536; place++) {
            Check.due("peek(" + place + ") stays", core.peek(place), 0);
        }
        for (int place = 0; place < 16; place++) {
            Check.due("peek(" + place + ") stays", core.peek(place), 0);
        }
        Check.due("feed(65520, ..)", core.feed(65520, 0x01020304, 0x05060708, 0x090A0B0C, 0x0D0E0F10), true);
        for (int i = 0; i < 16; i++) {
            Check.due("peek(" + (65520 + i) + ")", core.peek(65520 + i), i + 1);
            Check.due("peek(" + i + ") stays", core.peek(i), 0);
        }
        Check.due("peek(65519) stays", core.peek(65519), 0);
        Check.due("feed(-1, ..)", core.feed(-1, -1, -1, -1, -1), false);
        Check.due("peek(0) stays", core.peek(0), 0);
        Check.due("peek(65535) stays", core.peek(65535), 16);
    }
}
