import java.util.Random;

/** Promises 7, 8 and 9: the kinds of numbers, their bits, what goes for what, and the nearest. */
public final class KindsTest {
    private static final long FLOAT_NAN = 0x7FC00000L;
    private static final long DOUBLE_NAN = 0x7FF8000000000000L;

    public static void main(String[] args) {
        promise7Tap();
        promise8Seen();
        promise9Dial();
        everyPairOfKinds();
        bitsAreCut();
        noNumbersAreRefused();
        wholeNumbersGoToTheNearest();
        everySortOfFloatWidens();
        Check.finish();
    }

    private static void promise7Tap() {
        CordBoard x = new CordBoard();
        x.knob(1, false);
        x.plug(0, 4, 2);
        x.dial(0, 1, 4, 7);
        Check.due("tap", x.tap(0, 1, 4), 0);
        Check.due("seen", x.seen(), 7);
        Check.due("tap of an untouched place", x.tap(0, 0, 5), 0);
        Check.due("seen", x.seen(), 0);
        Check.due("tap of no socket, with no kind", x.tap(10, 0, 9), CordBoard.UNKNOWN);
        Check.due("tap of no socket", x.tap(-1, 0, 4), CordBoard.UNKNOWN);
        Check.due("tap of no kind, of an empty socket", x.tap(1, 0, 8), CordBoard.OUTSIDE);
        Check.due("tap of no kind", x.tap(0, 0, -1), CordBoard.OUTSIDE);
        Check.due("tap of an empty socket", x.tap(1, 0, 4), -11);
        Check.due("tap of no place, with a wrong kind", x.tap(0, 2, 0), -13);
        Check.due("tap of place -1", x.tap(0, -1, 4), -13);
        Check.due("tap with a wrong kind", x.tap(0, 0, 3), -12);
        for (int sort = 8; sort <= 11; sort++) {
            x.plug(2, sort, 1);
            Check.due("tap of sort " + sort + " ahead of the place", x.tap(2, 5, 4), -12);
        }
        x.mount(2, 0);
        Check.due("tap of a knob itself", x.tap(2, 5, 4), -12);
    }

    private static void promise8Seen() {
        CordBoard x = new CordBoard();
        Check.due("seen at first", x.seen(), 0);
        x.plug(0, 1, 1);
        x.dial(0, 0, 1, -5);
        Check.due("seen after a write", x.seen(), 0);
        x.tap(0, 0, 1);
        Check.due("seen", x.seen(), -5);
        x.tap(0, 1, 1);
        x.tap(0, 0, 2);
        x.tap(5, 0, 1);
        x.tap(0, 0, 9);
        x.level(5);
        x.cable(0, 0, 0, 0, 0, 0, -1, 0);
        x.plug(0, 1, 1);
        x.tick(2);
        Check.due("seen stays through causes, refusals and ticks", x.seen(), -5);
        x.plug(1, 6, 1);
        x.dial(1, 0, 6, Float.floatToIntBits(-2.5f));
        x.tap(1, 0, 6);
        Check.due("a float's bits, as an int", x.seen(), Float.floatToIntBits(-2.5f));
    }

    private static void promise9Dial() {
        CordBoard x = new CordBoard();
        x.knob(1, false);
        x.plug(0, 4, 2);
        Check.due("dial", x.dial(0, 0, 4, -9), 0);
        Check.due("dial of a char to an int", x.dial(0, 1, 2, -1), 0);
        x.tap(0, 1, 4);
        Check.due("seen", x.seen(), 65535);
        Check.due("dial of no socket, with no kind", x.dial(10, 0, 9, 0), CordBoard.UNKNOWN);
        Check.due("dial of no kind, of an empty socket", x.dial(1, 0, 8, 0), CordBoard.OUTSIDE);
        Check.due("dial of no kind", x.dial(0, 0, -1, 0), CordBoard.OUTSIDE);
        Check.due("dial to an empty socket", x.dial(1, 0, 4, 0), -11);
        Check.due("dial to no place, with a wrong kind", x.dial(0, 2, 5, 0), -13);
        Check.due("dial to place -1", x.dial(0, -1, 4, 0), -13);
        Check.due("dial with a wrong kind", x.dial(0, 0, 5, 0), -12);
        for (int sort = 8; sort <= 11; sort++) {
            x.plug(2, sort, 1);
            Check.due("dial to sort " + sort + " ahead of the place", x.dial(2, 5, 4, 0), -12);
        }
        x.mount(2, 0);
        Check.due("dial to a knob itself", x.dial(2, 5, 4, 0), -12);
        x.tap(0, 0, 4);
        Check.due("seen, unchanged by what had a cause", x.seen(), -9);
    }

    private static void everyPairOfKinds() {
        for (int track = 0; track < 8; track++) {
            for (int kind = 0; kind < 8; kind++) {
                CordBoard x = new CordBoard();
                x.plug(0, track, 1);
                String pair = " of kind " + kind + ", of a track of " + track;
                Check.due("tap" + pair, x.tap(0, 0, kind), Numbers.goesFor(track, kind) ? 0 : -12);
                Check.due("dial" + pair, x.dial(0, 0, kind, 1), Numbers.goesFor(kind, track) ? 0 : -12);
            }
        }
    }

    private static void bitsAreCut() {
        long bits = 0x123456789ABCDEF1L;
        long[] want = {1, (byte) bits, (char) bits, (short) bits, (int) bits, bits, (int) bits, bits};
        CordBoard x = new CordBoard();
        for (int kind = 0; kind < 8; kind++) {
            x.plug(0, kind, 1);
            x.dial(0, 0, kind, bits);
            x.tap(0, 0, kind);
            Check.due("bits cut to kind " + kind, x.seen(), want[kind]);
        }
        x.plug(0, 0, 1);
        x.dial(0, 0, 0, 2);
        x.tap(0, 0, 0);
        Check.due("the lowest bit alone makes a truth", x.seen(), 0);
    }

    private static void noNumbersAreRefused() {
        CordBoard x = new CordBoard();
        x.plug(0, 7, 1);
        long[] floats = {FLOAT_NAN, -1L, 0x7F800001L, 0xFF800001L, 0x12345678_7F800001L};
        for (long bits : floats) {
            Check.due("dial of float " + bits, x.dial(0, 0, 6, bits), CordBoard.OUTSIDE);
        }
        long[] doubles = {DOUBLE_NAN, -1L, 0x7FF0000000000001L, 0xFFF0000000000001L};
        for (long bits : doubles) {
            Check.due("dial of double " + bits, x.dial(0, 0, 7, bits), CordBoard.OUTSIDE);
            Check.due("dial of the same bits as of a long", x.dial(0, 0, 5, bits), 0);
        }
        Check.due("no number ahead of causes", x.dial(3, 9, 7, DOUBLE_NAN), CordBoard.OUTSIDE);
        Check.due("no socket ahead of no number", x.dial(11, 9, 7, DOUBLE_NAN), CordBoard.UNKNOWN);
        long[] infinite = {0x7FF0000000000000L, 0xFFF0000000000000L};
        for (long bits : infinite) {
            Check.due("dial of an infinite double", x.dial(0, 0, 7, bits), 0);
            x.tap(0, 0, 7);
            Check.due("seen", x.seen(), bits);
        }
        Check.due("a float is a number by its own bits alone", x.dial(0, 0, 6, 0x7FF8000000000000L), 0);
    }

    private static void wholeNumbersGoToTheNearest() {
        Random random = new Random(11);
        for (int shift = 0; shift < 63; shift++) {
            for (int near = -3; near <= 3; near++) {
                wholeToFloating((1L << shift) + near);
                wholeToFloating(-(1L << shift) + near);
                wholeToFloating((1L << shift) + (1L << shift / 2) + near);
                wholeToFloating((0x1000001L << Math.min(shift, 39)) + near);
                wholeToFloating((0x1000003L << Math.min(shift, 38)) + near);
                wholeToFloating((0x20000000000001L << Math.min(shift, 9)) + near);
                wholeToFloating((0x20000000000003L << Math.min(shift, 9)) + near);
                wholeToFloating(-1L >>> shift);
            }
        }
        for (int n = 0; n < 20000; n++) {
            wholeToFloating(random.nextLong() >> random.nextInt(64));
        }
        wholeToFloating(Long.MIN_VALUE);
        wholeToFloating(Long.MAX_VALUE);
    }

    private static void wholeToFloating(long whole) {
        for (int kind = 1; kind <= 5; kind++) {
            long own = Numbers.bitsOf(Numbers.boxed(kind, whole));
            widened(kind, whole, 6, Float.floatToIntBits((float) own));
            widened(kind, whole, 7, Double.doubleToLongBits((double) own));
        }
    }

    private static void everySortOfFloatWidens() {
        Random random = new Random(12);
        for (int exponent = 0; exponent < 256; exponent++) {
            for (int n = 0; n < 60; n++) {
                int fraction = n < 24 ? (1 << n) - 1 : n < 47 ? 1 << n - 24 : random.nextInt(1 << 23);
                int bits = exponent << 23 | (exponent == 255 ? 0 : fraction);
                widened(6, bits, 7, Double.doubleToLongBits(Float.intBitsToFloat(bits)));
                int negative = bits | Integer.MIN_VALUE;
                widened(6, negative, 7, Double.doubleToLongBits(Float.intBitsToFloat(negative)));
            }
        }
    }

    /** Widened where it is written, and where it is read. */
    private static void widened(int kind, long bits, int other, long want) {
        CordBoard x = new CordBoard();
        x.plug(0, kind, 1);
        x.plug(1, other, 1);
        x.dial(0, 0, kind, bits);
        x.dial(1, 0, kind, bits);
        x.tap(0, 0, other);
        Check.due(bits + " of kind " + kind + " read as of " + other, x.seen(), want);
        x.tap(1, 0, other);
        Check.due(bits + " of kind " + kind + " written to a track of " + other, x.seen(), want);
    }
}
