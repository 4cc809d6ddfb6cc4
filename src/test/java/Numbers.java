/** The kinds of numbers as Java itself has them: boxed values in place of bits. */
final class Numbers {
    static final Class<?>[] TYPES = {boolean.class, byte.class, char.class, short.class,
        int.class, long.class, float.class, double.class};

    /** The kinds that each kind goes for, written out from the document. */
    static final String[] GOES_FOR = {"0", "134567", "24567", "34567", "4567", "567", "67", "7"};

    private Numbers() {
    }

    static boolean goesFor(int kind, int other) {
        return GOES_FOR[kind].indexOf('0' + other) >= 0;
    }

    static boolean isNoNumber(int kind, long bits) {
        return kind == 6 && Float.isNaN(Float.intBitsToFloat((int) bits))
                || kind == 7 && Double.isNaN(Double.longBitsToDouble(bits));
    }

    static Object boxed(int kind, long bits) {
        switch (kind) {
            case 0: return (bits & 1) == 1;
            case 1: return (byte) bits;
            case 2: return (char) bits;
            case 3: return (short) bits;
            case 4: return (int) bits;
            case 5: return bits;
            case 6: return Float.intBitsToFloat((int) bits);
            default: return Double.longBitsToDouble(bits);
        }
    }

    static long bitsOf(Object number) {
        if (number instanceof Boolean truth) {
            return truth ? 1 : 0;
        }
        if (number instanceof Character sign) {
            return sign;
        }
        if (number instanceof Float little) {
            return Float.floatToRawIntBits(little);
        }
        if (number instanceof Double big) {
            return Double.doubleToRawLongBits(big);
        }
        return ((Number) number).longValue();
    }

    static int kindOf(Object number) {
        Class<?>[] boxes = {Boolean.class, Byte.class, Character.class, Short.class,
            Integer.class, Long.class, Float.class, Double.class};
        for (int kind = 0; kind < boxes.length; kind++) {
            if (boxes[kind].isInstance(number)) {
                return kind;
            }
        }
        return -1;
    }
}
