import java.util.Random;

/** Long runs of calls, the same each time, on CordBoard and on the model: all answers must agree. */
public final class ModelTest {
    private static final int RUNS = 8000;
    private static final int CALLS = 256;
    private static final long[] EDGES = {0, 1, -1, 127, 128, -128, 255, 32767, 32768, 65535, 65536, 16777217,
        -16777219, Integer.MAX_VALUE, Integer.MIN_VALUE, Long.MAX_VALUE, Long.MIN_VALUE, 9007199254740993L,
        0x7F800000L, 0xFF800000L, 0x7F800001L, 0x80000000L, 0x00000001L, 0x007FFFFFL, 0x3FC00000L,
        0x7FF0000000000000L, 0xFFF0000000000000L, 0x7FF0000000000001L, 0x8000000000000000L};

    private final Random random;
    private final CordBoard board = new CordBoard();
    private final ModelDesk model = new ModelDesk();
    private String call;

    private ModelTest(long seed) {
        random = new Random(seed);
    }

    public static void main(String[] args) {
        for (int run = 0; run < RUNS; run++) {
            new ModelTest(run).play(run);
        }
        Check.finish();
    }

    private void play(int run) {
        for (int n = 0; n < CALLS; n++) {
            call = "";
            long[] answers = oneCall(random.nextInt(40));
            Check.due("run " + run + " call " + n + ": " + call, answers[0], answers[1]);
            Check.due("run " + run + " call " + n + ": seen after " + call, board.seen(), model.seen());
        }
    }

    private long[] oneCall(int choice) {
        if (choice < 12) {
            return callOfHolders(choice);
        }
        return choice < 26 ? callOfPlaces(choice) : callOfCables(choice);
    }

    private long[] callOfHolders(int choice) {
        int a = socket();
        int b = pick(-1, 16, 20);
        switch (choice) {
            case 0: case 1: case 2: case 3: {
                int sort = random.nextInt(4) == 0 ? 8 + random.nextInt(4) : pick(-1, 14, 1000);
                note("plug", a, sort, b);
                return pair(board.plug(a, sort, b), model.plug(a, sort, b));
            }
            case 4: case 5: {
                boolean fader = random.nextBoolean();
                note("knob", b, fader ? 1 : 0);
                return pair(board.knob(b, fader), model.knob(b, fader));
            }
            case 6: {
                int knob = knobNumber();
                note("mount", a, knob);
                return pair(board.mount(a, knob), model.mount(a, knob));
            }
            case 7: case 8: {
                int from = socket();
                note("share", a, from);
                return pair(board.share(a, from), model.share(a, from));
            }
            case 9: {
                note("width", a);
                return pair(board.width(a), model.width(a));
            }
            case 10: {
                note("level", a);
                return pair(board.level(a), model.level(a));
            }
            default: {
                int knob = knobNumber();
                note("gain", knob);
                return pair(board.gain(knob), model.gain(knob));
            }
        }
    }

    private long[] callOfPlaces(int choice) {
        int a = socket();
        int i = place();
        int kind = kind();
        long bits = bits();
        switch (choice) {
            case 12: case 13: {
                note("tap", a, i, kind);
                return pair(board.tap(a, i, kind), model.tap(a, i, kind));
            }
            case 14: case 15: case 16: {
                note("dial", a, i, kind, bits);
                return pair(board.dial(a, i, kind, bits), model.dial(a, i, kind, bits));
            }
            case 17: case 18: {
                int knob = knobNumber();
                note("lay", a, i, knob);
                return pair(board.lay(a, i, knob), model.lay(a, i, knob));
            }
            case 19: case 20: {
                int n = pick(-1, 17, 30);
                note("row", a, i, n);
                return pair(board.row(a, i, n), model.row(a, i, n));
            }
            case 21: {
                note("what", a, i);
                return pair(board.what(a, i), model.what(a, i));
            }
            case 22: case 23: {
                int j = place();
                note("inner", a, i, j, kind);
                return pair(board.inner(a, i, j, kind), model.inner(a, i, j, kind));
            }
            default: {
                int j = place();
                note("enter", a, i, j, kind, bits);
                return pair(board.enter(a, i, j, kind, bits), model.enter(a, i, j, kind, bits));
            }
        }
    }

    private long[] callOfCables(int choice) {
        int cable = pick(-1, 12, 40);
        switch (choice) {
            case 26: case 27: case 28: {
                int[] from = {socket(), place(), pick(-5, 5, 30)};
                int[] to = {socket(), place(), pick(-5, 5, 30)};
                int way = random.nextBoolean() ? -1 : pick(-2, 8, 50);
                int rule = pick(-1, 3, 60);
                note("cable", from[0], from[1], from[2], to[0], to[1], to[2], way, rule);
                return pair(board.cable(from[0], from[1], from[2], to[0], to[1], to[2], way, rule),
                        model.cable(from, to, way, rule));
            }
            case 29: case 30: {
                note("in", cable);
                return pair(board.in(cable), model.in(cable));
            }
            case 31: {
                note("out", cable);
                return pair(board.out(cable), model.out(cable));
            }
            case 32: case 33: case 34: case 35: {
                int n = pick(-1, 9, 50);
                note("tick", n);
                return pair(board.tick(n), model.tick(n));
            }
            case 36: case 37: case 38: {
                int what = pick(-1, 7, 50);
                note("told", cable, what);
                return pair(board.told(cable, what), model.told(cable, what));
            }
            default: {
                int what = pick(-1, 5, 50);
                note("about", what);
                return pair(board.about(what), model.about(what));
            }
        }
    }

    /** A number between two bounds, and once in so many cases any int. */
    private int pick(int least, int most, int rarity) {
        return random.nextInt(rarity) == 0 ? random.nextInt() : least + random.nextInt(most - least + 1);
    }

    /** Few sockets are used most of the time, so that calls meet one another. */
    private int socket() {
        return random.nextInt(12) == 0 ? pick(-1, 10, 4) : random.nextInt(5);
    }

    private int knobNumber() {
        return pick(-2, random.nextBoolean() ? 4 : 24, 60);
    }

    private int place() {
        return random.nextInt(30) == 0 ? Integer.MAX_VALUE - random.nextInt(3) : pick(-1, 5, 30);
    }

    private int kind() {
        return pick(-1, 8, 60);
    }

    private long bits() {
        int choice = random.nextInt(3);
        long edge = EDGES[random.nextInt(EDGES.length)];
        return choice == 0 ? edge : choice == 1 ? random.nextLong() >> random.nextInt(64) : edge + random.nextInt(5) - 2;
    }

    private void note(String name, long... arguments) {
        StringBuilder text = new StringBuilder(name);
        for (long argument : arguments) {
            text.append(' ').append(argument);
        }
        call = text.toString();
    }

    private static long[] pair(long got, long want) {
        return new long[] {got, want};
    }
}
