import java.util.Random;

/** Terms, 1 KINDS: what numbers are told by, how bits are cut, what is no number, what goes for what, the nearest. */
public final class Terms1KindsTest {
    private static final int TRUTH = 0, BYTE = 1, CHAR = 2, SHORT = 3, INT = 4, LONG = 5, FLOAT = 6, DOUBLE = 7;
    private static final long FLOAT_INFINITY = 0x7F800000L, DOUBLE_INFINITY = 0x7FF0000000000000L;

    public static void main(String[] args) throws ReflectiveOperationException {
        Sentences.run(Terms1KindsTest.class);
    }

    // ---- told by bits

    static void terms1_told_truthBy1And0() {
        toldByThemselves(TRUTH, 0, 1);
    }

    static void terms1_told_byteByItself() {
        toldByThemselves(BYTE, -128, -1, 0, 1, 127);
    }

    static void terms1_told_charFrom0On() {
        toldByThemselves(CHAR, 0, 1, 32767, 32768, 65535);
    }

    static void terms1_told_shortByItself() {
        toldByThemselves(SHORT, -32768, -1, 0, 1, 32767);
    }

    static void terms1_told_intByItself() {
        toldByThemselves(INT, Integer.MIN_VALUE, -1, 0, 1, Integer.MAX_VALUE);
    }

    static void terms1_told_longByItself() {
        toldByThemselves(LONG, Long.MIN_VALUE, -1, 0, 1, Long.MAX_VALUE);
    }

    static void terms1_told_floatByItsBitsAsAnInt() {
        float[] numbers = {0f, -0f, 1.5f, -2.5f, Float.MIN_VALUE, Float.MAX_VALUE, -Float.MAX_VALUE,
            Float.POSITIVE_INFINITY, Float.NEGATIVE_INFINITY};
        for (float number : numbers) {
            toldByThemselves(FLOAT, Float.floatToIntBits(number));
        }
    }

    static void terms1_told_doubleByItsBits() {
        double[] numbers = {0d, -0d, 1.5, -2.5, Double.MIN_VALUE, Double.MAX_VALUE, -Double.MAX_VALUE,
            Double.POSITIVE_INFINITY, Double.NEGATIVE_INFINITY};
        for (double number : numbers) {
            toldByThemselves(DOUBLE, Double.doubleToLongBits(number));
        }
    }

    private static void toldByThemselves(int kind, long... bits) {
        for (long some : bits) {
            given(kind, some, some);
        }
    }

    /** What is dialled as of a kind to a track of it, and what is seen there then. */
    private static void given(int kind, long bits, long want) {
        CordBoard x = new CordBoard();
        x.plug(0, kind, 1);
        Check.due("dial(0, 0, " + kind + ", " + bits + ")", x.dial(0, 0, kind, bits), 0);
        Desks.stands(x, 0, 0, kind, want);
    }

    // ---- given bits are cut

    static void terms1_cut_truthToTheLowestBit() {
        given(TRUTH, 2, 0);
        given(TRUTH, 3, 1);
        given(TRUTH, -1, 1);
        given(TRUTH, -2, 0);
        given(TRUTH, Long.MIN_VALUE, 0);
    }

    static void terms1_cut_byteToTheLowest8() {
        given(BYTE, 128, -128);
        given(BYTE, 255, -1);
        given(BYTE, 256, 0);
        given(BYTE, -129, 127);
        given(BYTE, Long.MIN_VALUE, 0);
    }

    static void terms1_cut_charToTheLowest16() {
        given(CHAR, -1, 65535);
        given(CHAR, 65536, 0);
        given(CHAR, -65536, 0);
        given(CHAR, -32768, 32768);
    }

    static void terms1_cut_shortToTheLowest16() {
        given(SHORT, 32768, -32768);
        given(SHORT, 65535, -1);
        given(SHORT, 65536, 0);
        given(SHORT, -32769, 32767);
    }

    static void terms1_cut_intToTheLowest32() {
        given(INT, 1L << 31, Integer.MIN_VALUE);
        given(INT, (1L << 32) - 1, -1);
        given(INT, 1L << 32, 0);
        given(INT, -(1L << 31) - 1, Integer.MAX_VALUE);
    }

    static void terms1_cut_longNotAtAll() {
        given(LONG, 0x123456789ABCDEF1L, 0x123456789ABCDEF1L);
        given(LONG, 0xF23456789ABCDEF1L, 0xF23456789ABCDEF1L);
    }

    static void terms1_cut_floatToTheLowest32() {
        given(FLOAT, 0x123456783FC00000L, 0x3FC00000L);
        given(FLOAT, 0x00000000BFC00000L, (int) 0xBFC00000L);
        given(FLOAT, -(1L << 32), 0);
    }

    static void terms1_cut_doubleNotAtAll() {
        given(DOUBLE, 0x123456789ABCDEF1L, 0x123456789ABCDEF1L);
        given(DOUBLE, 0xF23456789ABCDEF1L, 0xF23456789ABCDEF1L);
    }

    static void terms1_cut_aheadOfBeingWidened() {
        CordBoard x = new CordBoard();
        x.plug(0, LONG, 5);
        int[] kinds = {BYTE, CHAR, SHORT, INT, LONG};
        long[] want = {-1, 65535, -1, -1, -1};
        for (int i = 0; i < kinds.length; i++) {
            x.dial(0, i, kinds[i], -1);
            Desks.stands(x, 0, i, LONG, want[i]);
            x.dial(0, i, kinds[i], i < 4 ? 1L << 32 : 0);
            Desks.stands(x, 0, i, LONG, 0);
        }
    }

    static void terms1_cut_ofWhatIsEnteredToo() {
        CordBoard x = Desks.ofStripsAndBanks();
        int[] kinds = {BYTE, CHAR, SHORT, INT};
        long[] want = {-2, 0xFFFE, -2, -2};
        for (int i = 0; i < kinds.length; i++) {
            Check.due("enter", x.enter(2, 0, 0, kinds[i], 0xF_FFFF_FFFEL), 0);
            x.inner(2, 0, 0, INT);
            Check.due("seen as it was cut to kind " + kinds[i], x.seen(), want[i]);
        }
    }

    // ---- no numbers are not taken

    static void terms1_noNumber_ofFloat() {
        notTaken(FLOAT, FLOAT_INFINITY + 1, Desks.FLOAT_NAN, 0x7FFFFFFFL);
    }

    static void terms1_noNumber_ofFloatWithASign() {
        notTaken(FLOAT, 0xFF800001L, 0xFFC00000L, 0xFFFFFFFFL, -1L, (int) 0xFF800001L);
    }

    static void terms1_noNumber_ofDouble() {
        notTaken(DOUBLE, DOUBLE_INFINITY + 1, Desks.DOUBLE_NAN, 0x7FFFFFFFFFFFFFFFL);
    }

    static void terms1_noNumber_ofDoubleWithASign() {
        notTaken(DOUBLE, 0xFFF0000000000001L, 0xFFF8000000000000L, -1L);
    }

    static void terms1_noNumber_floatIsJudgedByItsLowest32BitsAlone() {
        notTaken(FLOAT, 0x123456787F800001L, 0x80000000FF800001L);
        given(FLOAT, 0x7FF8000000000000L, 0);
        given(FLOAT, 0x7FFFFFFF7F800000L, FLOAT_INFINITY);
        given(FLOAT, 0x7FFFFFFF7F7FFFFFL, 0x7F7FFFFFL);
    }

    static void terms1_noNumber_infinitiesAreNumbers() {
        given(FLOAT, FLOAT_INFINITY, FLOAT_INFINITY);
        given(FLOAT, 0xFF800000L, (int) 0xFF800000L);
        given(DOUBLE, DOUBLE_INFINITY, DOUBLE_INFINITY);
        given(DOUBLE, 0xFFF0000000000000L, 0xFFF0000000000000L);
    }

    static void terms1_noNumber_wholeKindsTakeTheSameBits() {
        given(INT, Desks.FLOAT_NAN, Desks.FLOAT_NAN);
        given(LONG, Desks.DOUBLE_NAN, Desks.DOUBLE_NAN);
        given(LONG, -1, -1);
        given(SHORT, Desks.FLOAT_NAN, 0);
    }

    static void terms1_noNumber_whateverTheTrack() {
        CordBoard x = Desks.ofTracks();
        for (int socket = 0; socket < 10; socket++) {
            Check.due("a float to socket " + socket, x.dial(socket, 0, FLOAT, Desks.FLOAT_NAN), CordBoard.OUTSIDE);
            Check.due("a double to socket " + socket, x.dial(socket, 0, DOUBLE, Desks.DOUBLE_NAN), CordBoard.OUTSIDE);
        }
    }

    static void terms1_noNumber_isNotEnteredEither() {
        CordBoard x = Desks.ofStripsAndBanks();
        x.enter(3, 0, 0, INT, 5);
        Check.due("enter of a float", x.enter(3, 0, 0, FLOAT, Desks.FLOAT_NAN), CordBoard.OUTSIDE);
        Check.due("enter of a double", x.enter(3, 0, 0, DOUBLE, Desks.DOUBLE_NAN), CordBoard.OUTSIDE);
        x.inner(3, 0, 0, DOUBLE);
        Check.due("seen", x.seen(), Double.doubleToLongBits(5.0));
    }

    private static void notTaken(int kind, long... bits) {
        CordBoard x = new CordBoard();
        x.plug(0, kind, 1);
        x.dial(0, 0, BYTE, 5);
        x.tap(0, 0, kind);
        long five = x.seen();
        for (long some : bits) {
            Check.due("dial(0, 0, " + kind + ", " + some + ")", x.dial(0, 0, kind, some), CordBoard.OUTSIDE);
            Desks.stands(x, 0, 0, kind, five);
        }
    }

    // ---- what a number of a kind goes for; nothing else goes

    static void terms1_goesFor_truthItsOwnAlone() {
        goesFor(TRUTH, TRUTH);
    }

    static void terms1_goesFor_byteAllWholeButCharAndBothOthers() {
        goesFor(BYTE, BYTE, SHORT, INT, LONG, FLOAT, DOUBLE);
    }

    static void terms1_goesFor_charIntAndOnButNotShort() {
        goesFor(CHAR, CHAR, INT, LONG, FLOAT, DOUBLE);
    }

    static void terms1_goesFor_shortIntAndOnButNotChar() {
        goesFor(SHORT, SHORT, INT, LONG, FLOAT, DOUBLE);
    }

    static void terms1_goesFor_intLongAndOn() {
        goesFor(INT, INT, LONG, FLOAT, DOUBLE);
    }

    static void terms1_goesFor_longFloatAndDouble() {
        goesFor(LONG, LONG, FLOAT, DOUBLE);
    }

    static void terms1_goesFor_floatDouble() {
        goesFor(FLOAT, FLOAT, DOUBLE);
    }

    static void terms1_goesFor_doubleItsOwnAlone() {
        goesFor(DOUBLE, DOUBLE);
    }

    /** Where it is read, where it is written, and where it is laid. */
    private static void goesFor(int kind, int... others) {
        boolean[] goes = new boolean[8];
        for (int other : others) {
            goes[other] = true;
        }
        for (int other = 0; other < 8; other++) {
            CordBoard x = new CordBoard();
            x.plug(0, kind, 1);
            x.plug(1, other, 1);
            String name = "kind " + kind + " for " + other;
            int want = goes[other] ? 0 : Desks.WRONG;
            Check.due(name + ", read", x.tap(0, 0, other), want);
            Check.due(name + ", written", x.dial(1, 0, kind, 1), want);
            Desks.carries(x, name + ", laid", Desks.at(0, 0), Desks.at(1, 0), -1,
                    goes[other] ? 0 : 2, goes[other] ? CordBoard.NONE : 1);
        }
    }

    // ---- widened, to the nearest

    static void terms1_widened_byteToWholeKeepsItsSign() {
        for (int other : new int[] {SHORT, INT, LONG}) {
            widened(BYTE, -128, other, -128);
            widened(BYTE, 127, other, 127);
        }
    }

    static void terms1_widened_charToWholeStaysFrom0On() {
        for (int other : new int[] {INT, LONG}) {
            widened(CHAR, 65535, other, 65535);
            widened(CHAR, 32768, other, 32768);
        }
    }

    static void terms1_widened_shortToWholeKeepsItsSign() {
        for (int other : new int[] {INT, LONG}) {
            widened(SHORT, -32768, other, -32768);
            widened(SHORT, 32767, other, 32767);
        }
    }

    static void terms1_widened_intToLongKeepsItsSign() {
        widened(INT, Integer.MIN_VALUE, LONG, Integer.MIN_VALUE);
        widened(INT, Integer.MAX_VALUE, LONG, Integer.MAX_VALUE);
    }

    static void terms1_widened_zeroToFloatAndDoubleHasNoSign() {
        for (int kind = BYTE; kind <= LONG; kind++) {
            widened(kind, 0, FLOAT, 0);
            widened(kind, 0, DOUBLE, 0);
        }
    }

    static void terms1_widened_smallWholeToFloatAndDoubleAsTheyAre() {
        for (int kind = BYTE; kind <= LONG; kind++) {
            for (int whole = kind == CHAR ? 0 : -128; whole <= 127; whole++) {
                widened(kind, whole, FLOAT, Float.floatToIntBits(whole));
                widened(kind, whole, DOUBLE, Double.doubleToLongBits(whole));
            }
        }
    }

    static void terms1_widened_floatToDoubleAsItIs() {
        float[] numbers = {1f, -1.5f, Float.MAX_VALUE, -Float.MAX_VALUE, Float.MIN_NORMAL, 0.1f};
        for (float number : numbers) {
            widened(FLOAT, Float.floatToIntBits(number), DOUBLE, Double.doubleToLongBits(number));
        }
    }

    static void terms1_widened_leastFloatsToDouble() {
        for (int bits = 1; bits <= 8; bits++) {
            widened(FLOAT, bits, DOUBLE, Double.doubleToLongBits(bits * 0x1.0p-149));
            widened(FLOAT, bits | Integer.MIN_VALUE, DOUBLE, Double.doubleToLongBits(-bits * 0x1.0p-149));
        }
        widened(FLOAT, 0x7FFFFF, DOUBLE, Double.doubleToLongBits(8388607 * 0x1.0p-149));
    }

    static void terms1_widened_floatZeroKeepsItsSign() {
        widened(FLOAT, 0, DOUBLE, 0);
        widened(FLOAT, Integer.MIN_VALUE, DOUBLE, Long.MIN_VALUE);
    }

    static void terms1_widened_infiniteFloatsToInfiniteDoubles() {
        widened(FLOAT, FLOAT_INFINITY, DOUBLE, DOUBLE_INFINITY);
        widened(FLOAT, (int) 0xFF800000L, DOUBLE, 0xFFF0000000000000L);
    }

    static void terms1_nearest_intToFloatBelowHalf() {
        nearest(INT, (1 << 26) + 1, FLOAT, 0x1.0p26);
        nearest(INT, -(1 << 26) - 1, FLOAT, -0x1.0p26);
    }

    static void terms1_nearest_intToFloatAboveHalf() {
        nearest(INT, (1 << 26) + 5, FLOAT, (1 << 26) + 8);
        nearest(INT, -(1 << 26) - 5, FLOAT, -(1 << 26) - 8);
    }

    static void terms1_nearest_intToFloatHalfWayToTheEven() {
        nearest(INT, 16777217, FLOAT, 16777216);
        nearest(INT, 16777219, FLOAT, 16777220);
        nearest(INT, -16777217, FLOAT, -16777216);
        nearest(INT, -16777219, FLOAT, -16777220);
    }

    static void terms1_nearest_wholeThatFitStayAsTheyAre() {
        long[] narrow = {1L << 23, (1L << 23) + 1, (1L << 24) - 1, 1L << 24, (1L << 24) + 2};
        for (long whole : narrow) {
            nearest(INT, whole, FLOAT, whole);
            nearest(LONG, -whole, FLOAT, -whole);
        }
        long[] wide = {1L << 52, (1L << 52) + 1, (1L << 53) - 1, 1L << 53, (1L << 53) + 2};
        for (long whole : wide) {
            nearest(LONG, whole, DOUBLE, whole);
            nearest(LONG, -whole, DOUBLE, -whole);
        }
    }

    static void terms1_nearest_greatestAndLeastIntToFloat() {
        nearest(INT, Integer.MAX_VALUE, FLOAT, 0x1.0p31);
        nearest(INT, Integer.MIN_VALUE, FLOAT, -0x1.0p31);
    }

    static void terms1_nearest_greatestAndLeastIntToDoubleAsTheyAre() {
        nearest(INT, Integer.MAX_VALUE, DOUBLE, 2147483647.0);
        nearest(INT, Integer.MIN_VALUE, DOUBLE, -2147483648.0);
    }

    static void terms1_nearest_longToFloat() {
        nearest(LONG, (1L << 62) + (1L << 38) - 1, FLOAT, 0x1.0p62);
        nearest(LONG, (1L << 62) + (1L << 38), FLOAT, 0x1.0p62);
        nearest(LONG, (1L << 62) + (1L << 38) + 1, FLOAT, 0x1.000002p62);
    }

    static void terms1_nearest_longToDouble() {
        nearest(LONG, (1L << 53) + 1, DOUBLE, 0x1.0p53);
        nearest(LONG, (1L << 53) + 3, DOUBLE, 0x1.0p53 + 4);
        nearest(LONG, (1L << 55) + 5, DOUBLE, 0x1.0p55 + 8);
        nearest(LONG, (1L << 55) + 3, DOUBLE, 0x1.0p55);
    }

    static void terms1_nearest_greatestAndLeastLong() {
        nearest(LONG, Long.MAX_VALUE, FLOAT, 0x1.0p63);
        nearest(LONG, Long.MIN_VALUE, FLOAT, -0x1.0p63);
        nearest(LONG, Long.MAX_VALUE, DOUBLE, 0x1.0p63);
        nearest(LONG, Long.MIN_VALUE, DOUBLE, -0x1.0p63);
    }

    static void terms1_nearest_everySizeOfWholeNumber() {
        Random random = new Random(11);
        for (int shift = 0; shift < 63; shift++) {
            for (int near = -3; near <= 3; near++) {
                asJavaWidens((1L << shift) + near);
                asJavaWidens(-(1L << shift) + near);
                asJavaWidens((1L << shift) + (1L << shift / 2) + near);
                asJavaWidens((0x1000001L << Math.min(shift, 39)) + near);
                asJavaWidens((0x1000003L << Math.min(shift, 38)) + near);
                asJavaWidens((0x20000000000001L << Math.min(shift, 9)) + near);
                asJavaWidens((0x20000000000003L << Math.min(shift, 9)) + near);
                asJavaWidens(-1L >>> shift);
            }
        }
        for (int n = 0; n < 20000; n++) {
            asJavaWidens(random.nextLong() >> random.nextInt(64));
        }
    }

    static void terms1_widened_everySizeOfFloat() {
        Random random = new Random(12);
        for (int exponent = 0; exponent < 256; exponent++) {
            for (int n = 0; n < 60; n++) {
                int fraction = n < 24 ? (1 << n) - 1 : n < 47 ? 1 << n - 24 : random.nextInt(1 << 23);
                int bits = exponent << 23 | (exponent == 255 ? 0 : fraction);
                int negative = bits | Integer.MIN_VALUE;
                widened(FLOAT, bits, DOUBLE, Double.doubleToLongBits(Float.intBitsToFloat(bits)));
                widened(FLOAT, negative, DOUBLE, Double.doubleToLongBits(Float.intBitsToFloat(negative)));
            }
        }
    }

    private static void asJavaWidens(long whole) {
        for (int kind = BYTE; kind <= LONG; kind++) {
            long own = Numbers.bitsOf(Numbers.boxed(kind, whole));
            widened(kind, own, FLOAT, Float.floatToIntBits((float) own));
            widened(kind, own, DOUBLE, Double.doubleToLongBits((double) own));
        }
    }

    private static void nearest(int kind, long whole, int other, double want) {
        boolean isFloat = other == FLOAT;
        Check.isTrue(want + " is a number of kind " + other, !isFloat || (float) want == want);
        widened(kind, whole, other, isFloat ? Float.floatToIntBits((float) want) : Double.doubleToLongBits(want));
    }

    /** Where it is read, and where it is written. */
    private static void widened(int kind, long bits, int other, long want) {
        CordBoard x = new CordBoard();
        x.plug(0, kind, 1);
        x.plug(1, other, 1);
        x.dial(0, 0, kind, bits);
        x.dial(1, 0, kind, bits);
        x.tap(0, 0, other);
        Check.due(bits + " of kind " + kind + " read as of " + other, x.seen(), want);
        x.tap(1, 0, other);
        Check.due(bits + " of kind " + kind + " written to a track of " + other, x.seen(), want);
    }
}
