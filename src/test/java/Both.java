import java.util.Random;

/** One GameCore and one Oracle that get the same calls; the document allows 512 of them. */
final class Both {
    private static final int LIMIT = 512;

    private final GameCore core = new GameCore();
    private final Oracle oracle = new Oracle();
    private final String label;
    private int calls = 0;

    Both(String label) {
        this.label = label;
    }

    boolean hasRoomFor(int more) {
        return calls + more <= LIMIT;
    }

    Oracle oracle() {
        return oracle;
    }

    private void due(String call, long got, long want) {
        calls++;
        Check.due(label + " call " + calls + ": " + call, got, want);
    }

    void poke(int place, int v) {
        due("poke(" + place + ", " + v + ")", core.poke(place, v) ? 1 : 0, oracle.poke(place, v) ? 1 : 0);
    }

    void feed(int place, int a, int b, int c, int d) {
        due("feed(" + place + ", " + a + ", " + b + ", " + c + ", " + d + ")",
            core.feed(place, a, b, c, d) ? 1 : 0, oracle.feed(place, a, b, c, d) ? 1 : 0);
    }

    void peek(int place) {
        due("peek(" + place + ")", core.peek(place), oracle.peek(place));
    }

    void step() {
        due("step()", core.step(), oracle.step());
    }

    void run(int n) {
        due("run(" + n + ")", core.run(n), oracle.run(n));
    }

    void request(int bit) {
        due("request(" + bit + ")", core.request(bit) ? 1 : 0, oracle.request(bit) ? 1 : 0);
    }

    void set(int i, int v) {
        due("set(" + i + ", " + v + ")", core.set(i, v) ? 1 : 0, oracle.set(i, v) ? 1 : 0);
    }

    void compareState() {
        for (int i = 0; i < 6; i++) {
            due("reg(" + i + ")", core.reg(i), oracle.reg(i));
        }
        for (int i = 0; i < 5; i++) {
            due("look(" + i + ")", core.look(i), oracle.look(i));
        }
        due("mcycles()", core.mcycles(), oracle.mcycles());
    }

    void compareTimer() {
        for (int place = 0xFF04; place <= 0xFF07; place++) {
            peek(place);
        }
        peek(0xFF0F);
        peek(0xFFFF);
    }

    /** What was written last lies anywhere, so a sample of the touched places is taken. */
    void compareTouched(Random random) {
        Integer[] places = oracle.touched.toArray(new Integer[0]);
        for (int i = 0; i < 200 && places.length > 0 && hasRoomFor(1); i++) {
            peek(places.length <= 200 ? places[i % places.length] : places[random.nextInt(places.length)]);
        }
    }
}
