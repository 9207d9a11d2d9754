import java.util.Random;

/** Promise 5, each instruction by itself: every opcode and every CB opcode against the Oracle. */
final class InstructionTest {
    private static final int[] EDGES = {0, 1, 15, 16, 127, 128, 153, 154, 159, 160, 240, 254, 255};
    private static final int[] PLACES = {
        0, 1, 0xFFF, 0x1000, 0x7FFF, 0x8000, 0xC100, 0xFF03, 0xFF04, 0xFF05, 0xFF06, 0xFF0F, 0xFF10, 0xFFFE, 0xFFFF
    };

    public static void main(String[] args) {
        Random random = new Random(20261116);
        for (int opcode = 0; opcode < 256; opcode++) {
            for (int round = 0; round < 60; round++) {
                one(random, Oracle.name(opcode), opcode, random.nextInt(256), round);
            }
        }
        for (int opcode = 0; opcode < 256; opcode++) {
            for (int round = 0; round < 30; round++) {
                one(random, "CB " + Integer.toHexString(opcode), 0xCB, opcode, round);
            }
        }
        sumsOfBytes();
        everyDecimal();
        Check.end();
    }

    private static int word(Random random) {
        switch (random.nextInt(3)) {
            case 0: return PLACES[random.nextInt(PLACES.length)];
            case 1: return EDGES[random.nextInt(EDGES.length)] * 256 + EDGES[random.nextInt(EDGES.length)];
            default: return random.nextInt(65536);
        }
    }

    private static void one(Random random, String name, int opcode, int second, int round) {
        Both both = new Both(name + " round " + round);
        for (int i = 0; i < 5; i++) {
            both.set(i, word(random));
        }
        both.set(0, EDGES[random.nextInt(EDGES.length)] * 256 + round % 16 * 16);
        int place = round % 7 == 6 ? 0xFFFE + random.nextInt(2) : 0xC000 + random.nextInt(256);
        both.poke(both.oracle().reg(3), EDGES[random.nextInt(EDGES.length)]);
        both.poke(both.oracle().reg(4), random.nextInt(256));
        both.poke((both.oracle().reg(4) + 1) % 65536, random.nextInt(256));
        both.poke(0xFF00 + both.oracle().reg(1) % 256, random.nextInt(256));
        both.poke(0xFF04, random.nextInt(256));
        both.poke(place, opcode);
        both.poke((place + 1) % 65536, second);
        both.poke((place + 2) % 65536, random.nextBoolean() ? 0xFF : random.nextInt(256));
        both.set(5, place);
        both.step();
        both.compareState();
        both.compareTimer();
        both.compareTouched(random);
    }

    private static void sumsOfBytes() {
        GameCore core = null;
        Oracle oracle = null;
        int calls = 512;
        for (int kind = 0; kind < 8; kind++) {
            for (int a = 0; a < 256; a += 3) {
                for (int v = 0; v < 256; v += a % 2 + 1) {
                    if (calls + 6 > 512) {
                        core = new GameCore();
                        oracle = new Oracle();
                        core.poke(0, 0x80 + 8 * kind);
                        oracle.poke(0, 0x80 + 8 * kind);
                        calls = 1;
                    }
                    core.poke(0, 0x80 + 8 * kind);
                    oracle.poke(0, 0x80 + 8 * kind);
                    int af = a * 256 + (a + v) % 16 * 16;
                    core.set(0, af);
                    oracle.set(0, af);
                    core.set(1, v * 256);
                    oracle.set(1, v * 256);
                    core.set(5, 0);
                    oracle.set(5, 0);
                    core.step();
                    oracle.step();
                    Check.due("sum " + kind + " of AF " + af + " and " + v, core.reg(0), oracle.reg(0));
                    calls += 6;
                }
            }
        }
    }

    private static void everyDecimal() {
        for (int af = 0; af < 65536; af += 16 * 40) {
            GameCore core = new GameCore();
            Oracle oracle = new Oracle();
            for (int i = 0; i < 40; i++) {
                int now = af + 16 * i;
                core.poke(0, 0x27);
                oracle.poke(0, 0x27);
                core.set(0, now);
                oracle.set(0, now);
                core.set(5, 0);
                oracle.set(5, 0);
                core.step();
                oracle.step();
                Check.due("DAA of AF " + now, core.reg(0), oracle.reg(0));
            }
        }
    }
}
