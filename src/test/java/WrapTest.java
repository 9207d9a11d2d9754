/** "PLACES wrap at 65,536: PC, SP, HL+, HL-, (FF00 + C), what is pushed, fetched"; and words that wrap. */
final class WrapTest {
    public static void main(String[] args) {
        opcodeAtTheLastPlace();
        fetchedBytes();
        fetchedWords();
        bitPage();
        relativeJumps();
        pushes();
        pops();
        calls();
        dispatches();
        haltAtTheLastPlace();
        steppedHl();
        highPage();
        spToMemory();
        pairs();
        sumsOfWords();
        Check.end();
    }

    private static GameCore program(int place, String bytes, int sp) {
        GameCore core = Check.program(place, bytes);
        core.set(4, sp);
        return core;
    }

    private static void oneStep(String what, GameCore core, int pc) {
        Check.due(what + ": step()", core.step(), 0);
        Check.due(what + ": PC", core.reg(5), pc);
    }

    /** PC: 65535 is a place like the others, and 0 comes behind it. */
    private static void opcodeAtTheLastPlace() {
        GameCore core = Check.program(0xFFFF, "3C 04");
        oneStep("INC A at 65535", core, 0);
        Check.due("A", core.reg(0) >> 8, 1);
        oneStep("INC B at 0", core, 1);
        Check.due("B", core.reg(1) >> 8, 1);
        core = Check.program(0xFFFF, "D3");
        Check.due("what is none at 65535", core.step(), 2);
        Check.due("its PC", core.reg(5), 0xFFFF);
        core = new GameCore();
        core.set(5, 0xFFF0);
        Check.due("run(20) of NOP around the end", core.run(20), 20);
        Check.due("PC behind it", core.reg(5), 4);
    }

    private static void fetchedBytes() {
        GameCore core = Check.program(0xFFFF, "06 9A");
        oneStep("LD B,d8 from 0", core, 1);
        Check.due("B", core.reg(1), 0x9A00);
        core = Check.program(0xFFFF, "C6 9A");
        oneStep("ADD A,d8 from 0", core, 1);
        Check.due("A", core.reg(0) >> 8, 0x9A);
        core = Check.program(0xFFFE, "06 9A");
        oneStep("LD B,d8 from 65535", core, 0);
        Check.due("B", core.reg(1), 0x9A00);
        core = Check.program(0xFFFF, "36 9A");
        core.set(3, 0xC000);
        oneStep("LD (HL),d8 from 0", core, 1);
        Check.due("its byte", core.peek(0xC000), 0x9A);
        core = Check.program(0xFFFF, "F0 80");
        core.poke(0xFF80, 0x5B);
        oneStep("LDH A,(a8) from 0", core, 1);
        Check.due("A", core.reg(0) >> 8, 0x5B);
    }

    private static void fetchedWords() {
        GameCore core = Check.program(0xFFFF, "01 34 12");
        oneStep("LD BC,d16 from 0", core, 2);
        Check.due("BC", core.reg(1), 0x1234);
        core = Check.program(0xFFFE, "01 34 12");
        oneStep("LD BC,d16 from 65535", core, 1);
        Check.due("BC", core.reg(1), 0x1234);
        core = Check.program(0xFFFD, "01 34 12");
        oneStep("LD BC,d16 up to 65535", core, 0);
        Check.due("BC", core.reg(1), 0x1234);
        oneStep("JP a16 from 65535", Check.program(0xFFFE, "C3 34 12"), 0x1234);
        core = Check.program(0xFFFE, "C2 34 12");
        core.set(0, 0x80);
        oneStep("JP NZ,a16 from 65535, not taken", core, 1);
        core = Check.program(0xFFFE, "FA 34 12");
        core.poke(0x1234, 0x77);
        oneStep("LD A,(a16) from 65535", core, 1);
        Check.due("A", core.reg(0) >> 8, 0x77);
    }

    private static void bitPage() {
        GameCore core = Check.program(0xFFFF, "CB C0");
        oneStep("SET 0,B with its second byte at 0", core, 1);
        Check.due("B", core.reg(1), 0x0100);
    }

    private static void relativeJumps() {
        oneStep("JR up around the end", Check.program(0xFFF0, "18 7F"), 0x71);
        oneStep("JR up to 0", Check.program(0xFFF0, "18 0E"), 0);
        oneStep("JR up to 65535", Check.program(0xFFF0, "18 0D"), 0xFFFF);
        oneStep("JR down around 0", Check.program(0, "18 80"), 0xFF82);
        oneStep("JR down to 65535", Check.program(0, "18 FD"), 0xFFFF);
        oneStep("JR down to 0", Check.program(0, "18 FE"), 0);
        oneStep("JR with its e8 at 0", Check.program(0xFFFF, "18 05"), 6);
        oneStep("JR with its e8 at 0, back", Check.program(0xFFFF, "18 FE"), 0xFFFF);
        oneStep("JR NZ up around the end", Check.program(0xFFF0, "20 7F"), 0x71);
    }

    /** "its high byte first, SP less 1 ahead of each". */
    private static void pushes() {
        pushed("PUSH from 0", 0, 0xFFFE, 0xFFFF, 0xFFFE);
        pushed("PUSH from 1", 1, 0xFFFF, 0, 0xFFFF);
        pushed("PUSH from 2", 2, 0, 1, 0);
        pushed("PUSH from 65535", 0xFFFF, 0xFFFD, 0xFFFE, 0xFFFD);
    }

    private static void pushed(String what, int sp, int wantSp, int highPlace, int lowPlace) {
        GameCore core = program(0xC000, "C5", sp);
        core.set(1, 0xABCD);
        oneStep(what, core, 0xC001);
        Check.due(what + ": SP", core.reg(4), wantSp);
        Check.due(what + ": high byte", core.peek(highPlace), 0xAB);
        Check.due(what + ": low byte", core.peek(lowPlace), 0xCD);
    }

    private static void pops() {
        popped(0xFFFD, 0xFFFF);
        popped(0xFFFE, 0);
        popped(0xFFFF, 1);
        popped(0, 2);
    }

    private static void popped(int sp, int wantSp) {
        String[] codes = {"D1", "C9", "D9", "C0"};
        for (String code : codes) {
            GameCore core = program(0xC000, code, sp);
            core.poke(sp, 0xCD);
            core.poke((sp + 1) & 0xFFFF, 0xAB);
            core.step();
            Check.due(code + " at " + sp + ": what is popped", core.reg(code.equals("D1") ? 2 : 5), 0xABCD);
            Check.due(code + " at " + sp + ": SP", core.reg(4), wantSp);
        }
    }

    private static void calls() {
        GameCore core = program(0xFFFE, "CD 00 C0", 0x8000);
        oneStep("CALL with its a16 around the end", core, 0xC000);
        Check.due("it comes back to 1: low byte", core.peek(0x7FFE), 1);
        Check.due("it comes back to 1: high byte", core.peek(0x7FFF), 0);
        core = program(0xFFFF, "FF", 0x8000);
        oneStep("RST at 65535", core, 0x38);
        Check.due("it comes back to 0: low byte", core.peek(0x7FFE), 0);
        Check.due("it comes back to 0: high byte", core.peek(0x7FFF), 0);
        core = program(0xC0FD, "CD 34 12", 1);
        oneStep("CALL with SP of 1", core, 0x1234);
        Check.due("high byte at 0", core.peek(0), 0xC1);
        Check.due("low byte at 65535", core.peek(0xFFFF), 0x00);
        Check.due("SP", core.reg(4), 0xFFFF);
    }

    private static void dispatches() {
        dispatched("DISPATCH with SP of 0", 0, 0xFFFE, 0xFFFF, 0xFFFE);
        dispatched("DISPATCH with SP of 1", 1, 0xFFFF, 0, 0xFFFF);
        dispatched("DISPATCH with SP of 2", 2, 0, 1, 0);
    }

    private static void dispatched(String what, int sp, int wantSp, int highPlace, int lowPlace) {
        GameCore core = program(0xC000, "FB 00", sp);
        core.run(2);
        core.poke(0xFFFF, 0x1F);
        core.request(4);
        core.set(5, 0xABCD);
        oneStep(what, core, 0x60);
        Check.due(what + ": SP", core.reg(4), wantSp);
        Check.due(what + ": high byte", core.peek(highPlace), 0xAB);
        Check.due(what + ": low byte", core.peek(lowPlace), 0xCD);
    }

    /** The HALT's own byte (76) is IE there: bits 1, 2 and 4. */
    private static void haltAtTheLastPlace() {
        GameCore core = Check.program(0xFFFF, "76 3C");
        core.request(1);
        oneStep("HALT at 65535, some PENDING", core, 0);
        Check.due("the HALT BUG", core.look(3), 1);
        oneStep("INC A at 0, PC stays", core, 0);
        oneStep("INC A at 0, again", core, 1);
        Check.due("A", core.reg(0) >> 8, 2);

        core = Check.program(0xFFFE, "FB 76");
        core.request(4);
        core.step();
        oneStep("HALT at 65535 behind EI: PC goes back over the end", core, 0xFFFF);
        Check.due("IME", core.look(0), 1);

        core = Check.program(0xFFFE, "76 06");
        core.request(1);
        core.step();
        oneStep("LD B,d8 at 65535 behind a HALT BUG", core, 0);
        Check.due("its d8 is its own byte", core.reg(1), 0x0600);
    }

    private static void steppedHl() {
        String[] codes = {"22", "2A", "32", "3A"};
        for (String code : codes) {
            boolean up = code.startsWith("2");
            boolean loads = code.endsWith("A");
            GameCore core = Check.program(0xC000, code);
            int place = up ? 0xFFFF : 0;
            core.set(0, 0x5500);
            core.set(3, place);
            core.poke(place, 0x66);
            oneStep(code + " at " + place, core, 0xC001);
            Check.due(code + ": HL", core.reg(3), up ? 0 : 0xFFFF);
            Check.due(code + ": A", core.reg(0), loads ? 0x6600 : 0x5500);
            Check.due(code + ": the place", core.peek(place), loads ? 0x66 : 0x55);
        }
    }

    /** FF00 and FFFF are the ends of (FF00 + C) and (FF00 + a8); C alone counts, not B. */
    private static void highPage() {
        for (int low : new int[] {0, 1, 254, 255}) {
            GameCore core = Check.program(0xC000, "E2 F2 E0 " + Integer.toHexString(low) + " F0 " + Integer.toHexString(low));
            core.set(0, 0x5500);
            core.set(1, 0xEE00 + low);
            core.step();
            Check.due("LD (FF00+" + low + "),A", core.peek(0xFF00 + low), 0x55);
            core.poke(0xFF00 + low, 0x66);
            core.step();
            Check.due("LD A,(FF00+" + low + ")", core.reg(0), 0x6600);
            core.set(0, 0x7700);
            core.step();
            Check.due("LDH (" + low + "),A", core.peek(0xFF00 + low), 0x77);
            core.poke(0xFF00 + low, 0x88);
            core.step();
            Check.due("LDH A,(" + low + ")", core.reg(0), 0x8800);
        }
    }

    private static void spToMemory() {
        GameCore core = program(0xC000, "08 FF FF 08 FE FF 08 00 00", 0x1234);
        core.step();
        Check.due("LD (65535),SP: low byte", core.peek(0xFFFF), 0x34);
        Check.due("LD (65535),SP: high byte at 0", core.peek(0), 0x12);
        core.set(4, 0x5678);
        core.step();
        Check.due("LD (65534),SP: low byte", core.peek(0xFFFE), 0x78);
        Check.due("LD (65534),SP: high byte", core.peek(0xFFFF), 0x56);
        Check.due("LD (65534),SP: 0 stays", core.peek(0), 0x12);
    }

    private static void pairs() {
        for (int i = 0; i < 4; i++) {
            GameCore core = Check.program(0xC000, Integer.toHexString(0x03 + 16 * i) + " " + Integer.toHexString(0x0B + 16 * i));
            core.set(0, 0x00F0);
            core.set(1 + i, 0xFFFF);
            core.step();
            Check.due("INC rr of 65535, pair " + i, core.reg(1 + i), 0);
            core.step();
            Check.due("DEC rr of 0, pair " + i, core.reg(1 + i), 0xFFFF);
            Check.due("AF stays", core.reg(0), 0x00F0);
        }
    }

    private static void sumsOfWords() {
        GameCore core = Check.program(0xC000, "39");
        core.set(3, 1);
        core.set(4, 0xFFFF);
        core.step();
        Check.due("ADD HL,SP over 65535", core.reg(3), 0);
        Check.due("its flags: Z stays off", core.reg(0), 0x0030);
        core = program(0xC000, "E8 01", 0xFFFF);
        core.step();
        Check.due("ADD SP,e8 over 65535", core.reg(4), 0);
        core = program(0xC000, "E8 80", 0x007F);
        core.step();
        Check.due("ADD SP,-128 below 0", core.reg(4), 0xFFFF);
        core = program(0xC000, "F8 7F", 0xFF81);
        core.step();
        Check.due("LD HL,SP+127 to 0", core.reg(3), 0);
        core = program(0xC000, "F8 FF", 0);
        core.step();
        Check.due("LD HL,SP-1 below 0", core.reg(3), 0xFFFF);
        Check.due("SP stays", core.reg(4), 0);
    }
}
