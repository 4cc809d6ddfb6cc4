/**
 * A relay desk: sockets that hold rows of numbers, of knobs or of rows, and cables that carry
 * tick by tick what stands at a place of one socket to a place of another.
 */
public final class CordBoard {
    public static final int NONE = -1, UNKNOWN = -101, OUTSIDE = -102, FULL = -103;

    private static final int MOST_SOCKETS = 10, MOST_KNOBS = 24, MOST_CABLES = 12;
    private static final int MOST_PLACES = 16, MOST_TICKS = 8, MOST_STEP = 4;

    private static final int TRUTH = 0, BYTE = 1, CHAR = 2, SHORT = 3, INT = 4, LONG = 5, FLOAT = 6, DOUBLE = 7;
    private static final int STRIP_OF_KNOBS = 8, STRIP_OF_FADERS = 9, BANK_OF_INTS = 10, BANK_OF_DOUBLES = 11;
    private static final int NOTHING = 13;

    private static final int NO_CAUSE = 0, EMPTY = 1, WRONG = 2, PLACE = 3;
    private static final int SIDE_FROM = 0, SIDE_TO = 1;

    private static final int AS_IT_IS = -1;
    private static final int RULE_OUT = 0, RULE_STEP = 1, RULE_REWIND = 2;
    private static final int CAUSES_BORNE = 100;

    private final Thing[] sockets;
    private final Knob[] knobs;
    private final Cable[] cables;
    private final Hand hand;
    private int knobCount;
    private int cableCount;
    private int ticks;
    private int moves;
    private long seenBits;

    public CordBoard() {
        sockets = new Thing[MOST_SOCKETS];
        knobs = new Knob[MOST_KNOBS];
        cables = new Cable[MOST_CABLES];
        hand = new Hand();
    }

    // ---- what the sockets hold

    public int plug(int socket, int sort, int n) {
        if (!isSocket(socket)) {
            return UNKNOWN;
        }
        if (sort == NOTHING) {
            sockets[socket] = null;
            return 1;
        }
        if (!isRowSort(sort) || !isWidth(n)) {
            return OUTSIDE;
        }
        sockets[socket] = Kinds.isKind(sort) ? new Track(sort, n) : new Rack(sort, n);
        return 1;
    }

    public int knob(int gain, boolean fader) {
        if (knobCount >= knobs.length) {
            return FULL;
        }
        int number = knobCount;
        knobs[number] = fader ? new Fader(number, gain) : new Knob(number, gain);
        knobCount++;
        return number;
    }

    public int mount(int socket, int knob) {
        Knob mounted = knobAt(knob);
        if (!isSocket(socket) || mounted == null) {
            return UNKNOWN;
        }
        sockets[socket] = mounted;
        return 1;
    }

    public int share(int socket, int from) {
        if (!isSocket(socket) || !isSocket(from)) {
            return UNKNOWN;
        }
        sockets[socket] = sockets[from];
        return 1;
    }

    public int width(int socket) {
        if (!isSocket(socket)) {
            return UNKNOWN;
        }
        Thing held = sockets[socket];
        int cause = causeOfNoRow(held);
        return held != null && cause == NO_CAUSE ? held.places() : answer(cause);
    }

    // ---- single places

    public int tap(int socket, int i, int kind) {
        if (!isSocket(socket)) {
            return UNKNOWN;
        }
        if (!Kinds.isKind(kind)) {
            return OUTSIDE;
        }
        return answerSeen(readAt(sockets[socket], i, kind));
    }

    public long seen() {
        return seenBits;
    }

    public int dial(int socket, int i, int kind, long bits) {
        if (!isSocket(socket)) {
            return UNKNOWN;
        }
        if (!Kinds.isNumber(kind, bits)) {
            return OUTSIDE;
        }
        hand.holdNumber(kind, Kinds.cut(kind, bits));
        return answer(writeAt(sockets[socket], i));
    }

    public int lay(int socket, int i, int knob) {
        Knob laid = knobAt(knob);
        if (!isSocket(socket) || laid == null && knob != NONE) {
            return UNKNOWN;
        }
        hand.holdThing(laid);
        return answer(layAt(sockets[socket], i));
    }

    public int row(int socket, int i, int n) {
        if (!isSocket(socket)) {
            return UNKNOWN;
        }
        if (!isWidth(n)) {
            return OUTSIDE;
        }
        Thing held = sockets[socket];
        boolean ofDoubles = held instanceof Rack rack && rack.sort == BANK_OF_DOUBLES;
        hand.holdThing(new Track(ofDoubles ? DOUBLE : INT, n));
        return answer(layAt(held, i));
    }

    public int what(int socket, int i) {
        if (!isSocket(socket)) {
            return UNKNOWN;
        }
        int cause = takeAt(sockets[socket], i);
        return cause == NO_CAUSE ? hand.tellContent() : answer(cause);
    }

    public int inner(int socket, int i, int j, int kind) {
        if (!isSocket(socket)) {
            return UNKNOWN;
        }
        if (!Kinds.isKind(kind)) {
            return OUTSIDE;
        }
        int cause = takeHolder(sockets[socket], i);
        return answerSeen(cause == NO_CAUSE ? readAt(hand.thing, j, kind) : cause);
    }

    public int enter(int socket, int i, int j, int kind, long bits) {
        if (!isSocket(socket)) {
            return UNKNOWN;
        }
        if (!Kinds.isNumber(kind, bits)) {
            return OUTSIDE;
        }
        int cause = takeHolder(sockets[socket], i);
        if (cause != NO_CAUSE) {
            return answer(cause);
        }
        Thing holder = hand.thing;
        hand.holdNumber(kind, Kinds.cut(kind, bits));
        return answer(writeAt(holder, j));
    }

    // ---- cables

    public int cable(int from, int i, int s, int to, int k, int t, int way, int rule) {
        if (!isSocket(from) || !isSocket(to)) {
            return UNKNOWN;
        }
        if (!isStep(s) || !isStep(t) || !isWay(way) || !isRule(rule)) {
            return OUTSIDE;
        }
        if (cableCount >= cables.length) {
            return FULL;
        }
        int number = cableCount;
        cables[number] = new Cable(new End(from, i, s), new End(to, k, t), way, rule);
        cableCount++;
        return number;
    }

    public int in(int cable) {
        Cable joined = cableAt(cable);
        if (joined == null) {
            return UNKNOWN;
        }
        int changed = joined.isIn ? 0 : 1;
        joined.isIn = true;
        joined.rewindEnds();
        return changed;
    }

    public int out(int cable) {
        Cable parted = cableAt(cable);
        if (parted == null) {
            return UNKNOWN;
        }
        int changed = parted.isIn ? 1 : 0;
        parted.isIn = false;
        return changed;
    }

    public int tick(int n) {
        if (n < 0 || n > MOST_TICKS) {
            return OUTSIDE;
        }
        int movesBefore = moves;
        for (int done = 0; done < n; done++) {
            ticks++;
            for (Cable cable : cables) {
                if (cable != null && cable.isIn) {
                    carry(cable);
                }
            }
        }
        return moves - movesBefore;
    }

    public int told(int cable, int what) {
        Cable asked = cableAt(cable);
        if (asked == null) {
            return UNKNOWN;
        }
        switch (what) {
            case 0: return asked.isIn ? 1 : 0;
            case 1: return asked.from.place;
            case 2: return asked.to.place;
            case 3: return asked.moved;
            case 4: return asked.latestCause;
            case 5: return asked.latestSide;
            case 6: return asked.causes;
            default: return OUTSIDE;
        }
    }

    // ---- what is told of the whole

    public int level(int socket) {
        if (!isSocket(socket)) {
            return UNKNOWN;
        }
        Thing held = sockets[socket];
        int cause = causeOfNoRow(held);
        if (held == null || cause != NO_CAUSE) {
            return answer(cause);
        }
        long sum = 0;
        int places = held.places();
        for (int place = 0; place < places; place++) {
            cause = readAt(held, place, LONG);
            if (cause != NO_CAUSE) {
                return answer(cause);
            }
            sum += hand.bits;
        }
        seenBits = sum;
        return 0;
    }

    public int gain(int knob) {
        Knob asked = knobAt(knob);
        return asked == null ? 0 : asked.gain;
    }

    public int about(int what) {
        switch (what) {
            case 0: return knobCount;
            case 1: return cableCount;
            case 2: return countIn();
            case 3: return ticks;
            case 4: return moves;
            default: return OUTSIDE;
        }
    }

    // ---- numbers and bounds

    private boolean isSocket(int socket) {
        return socket >= 0 && socket < sockets.length;
    }

    private Thing heldBy(int socket) {
        return isSocket(socket) ? sockets[socket] : null;
    }

    private Knob knobAt(int number) {
        return number >= 0 && number < knobs.length ? knobs[number] : null;
    }

    private Cable cableAt(int number) {
        return number >= 0 && number < cables.length ? cables[number] : null;
    }

    private static boolean isRowSort(int sort) {
        return sort >= TRUTH && sort <= BANK_OF_DOUBLES;
    }

    private static boolean isWidth(int n) {
        return n >= 0 && n <= MOST_PLACES;
    }

    private static boolean isStep(int step) {
        return step >= -MOST_STEP && step <= MOST_STEP;
    }

    private static boolean isWay(int way) {
        return way == AS_IT_IS || Kinds.isKind(way);
    }

    private static boolean isRule(int rule) {
        return rule >= RULE_OUT && rule <= RULE_REWIND;
    }

    private static int answer(int cause) {
        return cause == NO_CAUSE ? 0 : -10 - cause;
    }

    private int answerSeen(int cause) {
        if (cause == NO_CAUSE) {
            seenBits = hand.bits;
        }
        return answer(cause);
    }

    private int countIn() {
        int count = 0;
        for (Cable cable : cables) {
            if (cable != null && cable.isIn) {
                count++;
            }
        }
        return count;
    }

    // ---- READ, WRITE, TAKE, LAY: each answers its cause; what is carried goes through the hand

    private int readAt(Thing held, int place, int kind) {
        return held == null ? EMPTY : held.read(place, kind, hand);
    }

    private int writeAt(Thing held, int place) {
        return held == null ? EMPTY : held.write(place, hand);
    }

    private int takeAt(Thing held, int place) {
        return held == null ? EMPTY : held.take(place, hand);
    }

    private int layAt(Thing held, int place) {
        return held == null ? EMPTY : held.put(place, hand);
    }

    /** A number has no places of its own, so it is turned away here; all else is left in the hand. */
    private int takeHolder(Thing held, int place) {
        int cause = takeAt(held, place);
        return cause == NO_CAUSE && hand.isNumber() ? WRONG : cause;
    }

    private static int causeOfNoRow(Thing held) {
        if (held == null) {
            return EMPTY;
        }
        return held.places() == NONE ? WRONG : NO_CAUSE;
    }

    private void carry(Cable cable) {
        boolean asItIs = cable.way == AS_IT_IS;
        Thing source = heldBy(cable.from.socket);
        int cause = asItIs ? takeAt(source, cable.from.place) : readAt(source, cable.from.place, cable.way);
        int side = SIDE_FROM;
        if (cause == NO_CAUSE) {
            Thing target = heldBy(cable.to.socket);
            cause = asItIs ? layAt(target, cable.to.place) : writeAt(target, cable.to.place);
            side = SIDE_TO;
        }
        if (cause == NO_CAUSE) {
            cable.noteMove();
            moves++;
        } else {
            cable.noteCause(cause, side);
        }
    }

    /** What a socket or a place can hold. Unless it says otherwise it has no places: all is WRONG. */
    private abstract static class Thing {
        /** How many places; NONE if it is nothing that has places. */
        int places() {
            return NONE;
        }

        boolean hasPlace(int place) {
            return place >= 0 && place < places();
        }

        int read(int place, int kind, Hand hand) {
            return WRONG;
        }

        int write(int place, Hand hand) {
            return WRONG;
        }

        int take(int place, Hand hand) {
            return WRONG;
        }

        int put(int place, Hand hand) {
            return WRONG;
        }
    }

    private static class Knob extends Thing {
        final int number;
        final int gain;

        Knob(int number, int gain) {
            this.number = number;
            this.gain = gain;
        }
    }

    private static final class Fader extends Knob {
        Fader(int number, int gain) {
            super(number, gain);
        }
    }

    /** A row of numbers of one kind: in a socket a TRACK, in a bank a ROW of ints or doubles. */
    private static final class Track extends Thing {
        final int kind;
        private final long[] numbers;

        Track(int kind, int width) {
            this.kind = kind;
            this.numbers = new long[isWidth(width) ? width : 0];
        }

        int places() {
            return numbers.length;
        }

        int read(int place, int asKind, Hand hand) {
            if (!hasPlace(place)) {
                return PLACE;
            }
            if (!Kinds.goesFor(kind, asKind)) {
                return WRONG;
            }
            hand.holdNumber(asKind, Kinds.widened(kind, asKind, numbers[place]));
            return NO_CAUSE;
        }

        int write(int place, Hand hand) {
            if (!hasPlace(place)) {
                return PLACE;
            }
            if (!Kinds.goesFor(hand.kind, kind)) {
                return WRONG;
            }
            numbers[place] = Kinds.widened(hand.kind, kind, hand.bits);
            return NO_CAUSE;
        }

        int take(int place, Hand hand) {
            if (!hasPlace(place)) {
                return PLACE;
            }
            hand.holdNumber(kind, numbers[place]);
            return NO_CAUSE;
        }

        /** Only nothing is turned away ahead of the place; what is no number has no kind that goes. */
        int put(int place, Hand hand) {
            return hand.isNothing() ? WRONG : write(place, hand);
        }
    }

    /** A row of things: a strip of knobs or faders, a bank of rows. */
    private static final class Rack extends Thing {
        final int sort;
        private final Thing[] things;

        Rack(int sort, int width) {
            this.sort = sort;
            this.things = new Thing[isWidth(width) ? width : 0];
        }

        int places() {
            return things.length;
        }

        int take(int place, Hand hand) {
            if (!hasPlace(place)) {
                return PLACE;
            }
            hand.holdThing(things[place]);
            return NO_CAUSE;
        }

        int put(int place, Hand hand) {
            if (!hasPlace(place)) {
                return PLACE;
            }
            if (!hand.isNothing() && !fits(hand.thing)) {
                return WRONG;
            }
            things[place] = hand.thing;
            return NO_CAUSE;
        }

        private boolean fits(Thing thing) {
            switch (sort) {
                case STRIP_OF_KNOBS: return thing instanceof Knob;
                case STRIP_OF_FADERS: return thing instanceof Fader;
                case BANK_OF_INTS: return thing instanceof Track ints && ints.kind == INT;
                case BANK_OF_DOUBLES: return thing instanceof Track doubles && doubles.kind == DOUBLE;
                default: return false;
            }
        }
    }

    /** What is on its way from one place to another; one hand serves all calls, so none is made anew. */
    private static final class Hand {
        int kind = NONE;
        long bits;
        Thing thing;

        void holdNumber(int ofKind, long itsBits) {
            kind = ofKind;
            bits = itsBits;
            thing = null;
        }

        void holdThing(Thing held) {
            kind = NONE;
            bits = 0;
            thing = held;
        }

        boolean isNumber() {
            return kind != NONE;
        }

        boolean isNothing() {
            return kind == NONE && thing == null;
        }

        int tellContent() {
            if (isNumber()) {
                return 200 + kind;
            }
            if (thing == null) {
                return NONE;
            }
            return thing instanceof Knob knob ? knob.number : 100 + thing.places();
        }
    }

    private static final class End {
        final int socket;
        private final int firstPlace;
        private final int step;
        int place;

        End(int socket, int firstPlace, int step) {
            this.socket = socket;
            this.firstPlace = firstPlace;
            this.step = step;
            this.place = firstPlace;
        }

        void stepOn() {
            place += step;
        }

        void rewind() {
            place = firstPlace;
        }
    }

    private static final class Cable {
        final End from;
        final End to;
        final int way;
        private final int rule;
        boolean isIn = true;
        int moved;
        int latestCause = NO_CAUSE;
        int latestSide = NONE;
        int causes;

        Cable(End from, End to, int way, int rule) {
            this.from = from;
            this.to = to;
            this.way = way;
            this.rule = rule;
        }

        void noteMove() {
            moved++;
            stepEnds();
        }

        void noteCause(int cause, int side) {
            latestCause = cause;
            latestSide = side;
            causes++;
            if (rule == RULE_OUT || causes >= CAUSES_BORNE) {
                isIn = false;
            } else if (rule == RULE_STEP) {
                stepEnds();
            } else {
                rewindEnds();
            }
        }

        void stepEnds() {
            from.stepOn();
            to.stepOn();
        }

        void rewindEnds() {
            from.rewind();
            to.rewind();
        }
    }

    /**
     * The kinds of numbers, by their bits alone: the language rules leave no way from a float or a
     * double to its bits, so widening to them is done on whole numbers.
     */
    private static final class Kinds {
        /** For each kind the kinds that it goes for, a bit each (DOUBLE is the highest). */
        private static final int[] GOES_FOR = {
            0b00000001, 0b11111010, 0b11110100, 0b11111000, 0b11110000, 0b11100000, 0b11000000, 0b10000000};

        private static final int FLOAT_FRACTION = 23, FLOAT_BIAS = 127, FLOAT_TOP = 255;
        private static final int DOUBLE_FRACTION = 52, DOUBLE_BIAS = 1023, DOUBLE_TOP = 2047;
        private static final long FLOAT_SIGN = 1L << 31, FLOAT_SIZE = FLOAT_SIGN - 1;
        private static final long DOUBLE_SIGN = 1L << 63, DOUBLE_SIZE = DOUBLE_SIGN - 1;
        private static final long FLOAT_INFINITY = (long) FLOAT_TOP << FLOAT_FRACTION;
        private static final long DOUBLE_INFINITY = (long) DOUBLE_TOP << DOUBLE_FRACTION;
        private static final long REBASE = (long) (DOUBLE_BIAS - FLOAT_BIAS) << DOUBLE_FRACTION;

        static boolean isKind(int kind) {
            return kind >= TRUTH && kind <= DOUBLE;
        }

        static boolean goesFor(int kind, int other) {
            return isKind(kind) && isKind(other) && (GOES_FOR[kind] >> other & 1) == 1;
        }

        static long cut(int kind, long bits) {
            switch (kind) {
                case TRUTH: return bits & 1;
                case BYTE: return (byte) bits;
                case CHAR: return (char) bits;
                case SHORT: return (short) bits;
                case INT: case FLOAT: return (int) bits;
                default: return bits;
            }
        }

        /** Whether there is such a kind, and the bits are a number of it. */
        static boolean isNumber(int kind, long bits) {
            switch (kind) {
                case FLOAT: return (bits & FLOAT_SIZE) <= FLOAT_INFINITY;
                case DOUBLE: return (bits & DOUBLE_SIZE) <= DOUBLE_INFINITY;
                default: return isKind(kind);
            }
        }

        /** Only for a kind that goes for the other one. */
        static long widened(int kind, int other, long bits) {
            if (kind == other) {
                return bits;
            }
            switch (other) {
                case FLOAT: return (int) nearest(bits, FLOAT_FRACTION, FLOAT_BIAS, FLOAT_SIGN);
                case DOUBLE: return kind == FLOAT ? floatToDouble(bits)
                        : nearest(bits, DOUBLE_FRACTION, DOUBLE_BIAS, DOUBLE_SIGN);
                default: return bits;
            }
        }

        /** The bits of the number of this form that is nearest to a whole one; of two, the even one. */
        private static long nearest(long whole, int fraction, int bias, long sign) {
            if (whole == 0) {
                return 0;
            }
            // the least long stays as it is here, and is right as a number without sign
            long size = whole < 0 ? -whole : whole;
            int top = 63 - Long.numberOfLeadingZeros(size);
            int surplus = top - fraction;
            long kept = surplus > 0 ? size >>> surplus : size << -surplus;
            if (surplus > 0) {
                long rest = size & (1L << surplus) - 1;
                long half = 1L << surplus - 1;
                boolean up = rest > half || rest == half && (kept & 1) == 1;
                kept += up ? 1 : 0;
            }
            // the leading one of kept, and a carry from rounding, count in the exponent: so it is one less
            long bits = ((long) (top + bias - 1) << fraction) + kept;
            return whole < 0 ? bits | sign : bits;
        }

        private static long floatToDouble(long bits) {
            long sign = bits < 0 ? DOUBLE_SIGN : 0;
            long size = bits & FLOAT_SIZE;
            if (size == 0) {
                return sign;
            }
            if (size == FLOAT_INFINITY) {
                return sign | DOUBLE_INFINITY;
            }
            if (size >>> FLOAT_FRACTION != 0) {
                return sign | (size << DOUBLE_FRACTION - FLOAT_FRACTION) + REBASE;
            }
            // a float below the normal ones has no leading one that is left out, but as a double it has
            int top = 63 - Long.numberOfLeadingZeros(size);
            long exponent = top - FLOAT_FRACTION + 1 - FLOAT_BIAS + DOUBLE_BIAS;
            return sign | (exponent - 1 << DOUBLE_FRACTION) + (size << DOUBLE_FRACTION - top);
        }
    }
}
