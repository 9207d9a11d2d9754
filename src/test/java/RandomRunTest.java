import java.util.Random;

/** All promises together: long random runs of all calls, right and wrong, against the Oracle. */
final class RandomRunTest {
    private static final int[] LIVELY = {
        0xFB, 0xF3, 0x76, 0xD9, 0xC9, 0xFB, 0x76, 0x00, 0x34, 0x35, 0xE0, 0xF0, 0xE2, 0xEA, 0x08, 0xC5, 0xF5,
        0xF1, 0xC1, 0x22, 0x32, 0x36, 0x3E, 0x18, 0x20, 0x28, 0xCD, 0xC7, 0xFF, 0xCB, 0x27, 0x09, 0xE8, 0xF8, 0x10, 0xD3
    };
    private static final int[] PLACES = {0xFF04, 0xFF05, 0xFF06, 0xFF07, 0xFF0F, 0xFFFF};
    private static final int[] NUMBERS = {
        Integer.MIN_VALUE, -65536, -1, 0, 1, 4, 5, 6, 2000, 2001, 65519, 65520, 65521, 65535, 65536, Integer.MAX_VALUE
    };

    public static void main(String[] args) {
        for (int seed = 0; seed < 3000; seed++) {
            oneRun(seed);
        }
        Check.end();
    }

    private static void oneRun(int seed) {
        Random random = new Random(seed);
        Both both = new Both("seed " + seed);
        int before = Check.wrongSoFar();
        prepare(both, random);
        while (both.hasRoomFor(200 + 19) && Check.wrongSoFar() == before) {
            call(both, random);
            both.compareState();
            if (random.nextInt(3) == 0) {
                both.compareTimer();
            }
        }
        both.compareTouched(random);
    }

    private static void prepare(Both both, Random random) {
        int start = random.nextInt(8) == 0 ? 0xFFF0 : 0xC000;
        for (int i = 0; i < 6; i++) {
            both.feed((start + 16 * i) % 65536, code(random), code(random), code(random), code(random));
        }
        for (int bit = 0; bit < 5; bit++) {
            both.poke(0x40 + 8 * bit, random.nextBoolean() ? 0xD9 : 0xC9);
        }
        both.poke(0xFFFF, random.nextInt(3) == 0 ? 0 : random.nextInt(256));
        both.poke(0xFF0F, random.nextInt(3) == 0 ? random.nextInt(256) : 0);
        both.poke(0xFF07, random.nextInt(8));
        both.poke(0xFF06, 250 + random.nextInt(6));
        both.poke(0xFF05, 250 + random.nextInt(6));
        for (int i = 0; i < 5; i++) {
            both.set(i, word(random));
        }
        both.set(5, start);
    }

    private static int code(Random random) {
        int number = 0;
        for (int i = 0; i < 4; i++) {
            int v = random.nextInt(5) < 3 ? LIVELY[random.nextInt(LIVELY.length)] : random.nextInt(256);
            number = number << 8 | v;
        }
        return number;
    }

    private static int word(Random random) {
        return random.nextInt(3) == 0 ? PLACES[random.nextInt(PLACES.length)] + random.nextInt(3)
            : random.nextInt(3) == 0 ? 0xC000 + random.nextInt(96) : random.nextInt();
    }

    private static int number(Random random) {
        return NUMBERS[random.nextInt(NUMBERS.length)];
    }

    private static void call(Both both, Random random) {
        switch (random.nextInt(14)) {
            case 0: both.request(random.nextInt(7) - 1); break;
            case 1: both.poke(PLACES[random.nextInt(PLACES.length)], random.nextInt()); break;
            case 2: both.set(random.nextInt(8) - 1, word(random)); break;
            case 3: both.run(1 + random.nextInt(40)); break;
            case 4: both.run(random.nextInt(6) == 0 ? number(random) : 1 + random.nextInt(300)); break;
            case 5: both.poke(number(random), random.nextInt()); break;
            case 6: both.feed(number(random), code(random), code(random), code(random), code(random)); break;
            case 7: both.peek(number(random)); break;
            case 8: both.set(5, 0xC000 + random.nextInt(96)); break;
            default: both.step();
        }
    }
}
