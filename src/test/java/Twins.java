import java.util.function.Supplier;
import java.util.function.ToIntFunction;

/** Two objects made alike, of which one gets a call more that must change nothing. */
final class Twins {
    private static final int CHUNK = 400;

    private Twins() {
    }

    /** Looks at every place of memory; an object has 512 calls, so that takes many pairs of twins. */
    static void stayAlike(String what, Supplier<GameCore> maker, ToIntFunction<GameCore> call, int want) {
        for (int first = 0; first < 65536; first += CHUNK) {
            GameCore called = maker.get();
            GameCore other = maker.get();
            Check.due(what, call.applyAsInt(called), want);
            compareMemory(what, called, other, first, Math.min(first + CHUNK, 65536));
        }
        goOnAlike(what, maker, call, want);
    }

    private static void goOnAlike(String what, Supplier<GameCore> maker, ToIntFunction<GameCore> call, int want) {
        GameCore called = maker.get();
        GameCore other = maker.get();
        Check.due(what, call.applyAsInt(called), want);
        compareState(what, called, other);
        Check.due(what + ", then run(50)", called.run(50), other.run(50));
        compareState(what + ", then run(50)", called, other);
    }

    private static void compareState(String what, GameCore called, GameCore other) {
        for (int i = 0; i < 6; i++) {
            Check.due(what + ": reg(" + i + ")", called.reg(i), other.reg(i));
        }
        for (int i = 0; i < 5; i++) {
            Check.due(what + ": look(" + i + ")", called.look(i), other.look(i));
        }
        Check.due(what + ": mcycles()", called.mcycles(), other.mcycles());
    }

    private static void compareMemory(String what, GameCore called, GameCore other, int from, int to) {
        for (int place = from; place < to; place++) {
            Check.due(what + ": peek(" + place + ")", called.peek(place), other.peek(place));
        }
    }
}
