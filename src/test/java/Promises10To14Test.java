/** Promises 10 to 14: lay, row, what, inner, enter. */
public final class Promises10To14Test {
    private static final int NONE = CordBoard.NONE, UNKNOWN = CordBoard.UNKNOWN, OUTSIDE = CordBoard.OUTSIDE;
    private static final int EMPTY = Desks.EMPTY, WRONG = Desks.WRONG, PLACE = Desks.PLACE;

    public static void main(String[] args) throws ReflectiveOperationException {
        Sentences.run(Promises10To14Test.class);
    }

    // ---- promise 10: lay

    static void promise10_aKnobIntoAStripOfKnobs() {
        laid(0, 2, 0);
    }

    static void promise10_aFaderIntoAStripOfKnobs() {
        laid(0, 0, 1);
    }

    static void promise10_aFaderIntoAStripOfFaders() {
        laid(1, 0, 1);
    }

    static void promise10_nothingOverAKnob() {
        laid(0, 0, NONE);
        laid(1, 1, NONE);
    }

    static void promise10_nothingOverARow() {
        laid(2, 0, NONE);
        laid(3, 0, NONE);
    }

    static void promise10_nothingWhereNothingStands() {
        laid(0, 2, NONE);
        laid(2, 2, NONE);
    }

    static void promise10_theSameKnobAtEachPlace() {
        CordBoard x = new CordBoard();
        x.knob(0, false);
        x.plug(0, 8, 16);
        for (int i = 0; i < 16; i++) {
            Check.due("lay(0, " + i + ", 0)", x.lay(0, i, 0), 0);
        }
        for (int i = 0; i < 16; i++) {
            Check.due("what(0, " + i + ")", x.what(0, i), 0);
        }
    }

    /** What is laid stands at the place, and the places beside it are as they were. */
    private static void laid(int socket, int i, int knob) {
        CordBoard x = Desks.ofStripsAndBanks();
        CordBoard y = Desks.ofStripsAndBanks();
        Check.due("lay(" + socket + ", " + i + ", " + knob + ")", x.lay(socket, i, knob), 0);
        for (int at = 0; at < 3; at++) {
            Check.due("what(" + socket + ", " + at + ")", x.what(socket, at), at == i ? knob : y.what(socket, at));
        }
    }

    static void promise10_unknownSocket() {
        for (int socket : Desks.NO_SOCKETS) {
            Desks.unchanged("lay(" + socket + ", 0, 0)", x -> x.lay(socket, 0, 0), UNKNOWN);
            Desks.unchanged("lay(" + socket + ", 0, NONE)", x -> x.lay(socket, 0, NONE), UNKNOWN);
        }
    }

    static void promise10_unknownKnob() {
        for (int knob : new int[] {-2, 2, 23, 24, Desks.LEAST, Desks.GREATEST}) {
            Desks.unchanged("lay(0, 0, " + knob + ")", x -> x.lay(0, 0, knob), UNKNOWN);
        }
    }

    static void promise10_unknownAheadOfCauses() {
        Desks.unchanged("into nothing", x -> x.lay(9, 0, 2), UNKNOWN);
        Desks.unchanged("into a knob itself", x -> x.lay(5, 0, 2), UNKNOWN);
        Desks.unchanged("at no place", x -> x.lay(0, 3, -2), UNKNOWN);
        Desks.unchanged("into a track", x -> x.lay(4, 0, 2), UNKNOWN);
    }

    static void promise10_causeEmpty() {
        Desks.unchanged("a knob", x -> x.lay(9, 0, 0), EMPTY);
        Desks.unchanged("nothing", x -> x.lay(9, 0, NONE), EMPTY);
    }

    static void promise10_causeWrongAKnobItself() {
        Desks.unchanged("a knob", x -> x.lay(5, 0, 0), WRONG);
        Desks.unchanged("nothing, at no place", x -> x.lay(5, -1, NONE), WRONG);
    }

    static void promise10_causeWrongNothingIntoATrack() {
        Desks.unchanged("at a place", x -> x.lay(4, 0, NONE), WRONG);
        Desks.unchanged("at no place", x -> x.lay(4, 3, NONE), WRONG);
    }

    static void promise10_causePlaceOfATrack() {
        for (int i : Desks.NO_PLACES_OF_3) {
            Desks.unchanged("a knob at " + i, x -> x.lay(4, i, 0), PLACE);
        }
    }

    static void promise10_causeWrongAKnobIntoATrack() {
        Desks.unchanged("a knob", x -> x.lay(4, 0, 0), WRONG);
        Desks.unchanged("a fader", x -> x.lay(4, 2, 1), WRONG);
    }

    static void promise10_causePlaceOfTheOthers() {
        for (int i : Desks.NO_PLACES_OF_3) {
            for (int socket = 0; socket < 4; socket++) {
                int into = socket;
                Desks.unchanged("a knob into " + socket + " at " + i, x -> x.lay(into, i, 0), PLACE);
                Desks.unchanged("nothing into " + socket + " at " + i, x -> x.lay(into, i, NONE), PLACE);
            }
        }
    }

    static void promise10_causeWrongAKnobIntoFaders() {
        Desks.unchanged("where nothing stands", x -> x.lay(1, 0, 0), WRONG);
        Desks.unchanged("where a fader stands", x -> x.lay(1, 1, 0), WRONG);
    }

    static void promise10_causeWrongAKnobOrFaderIntoBanks() {
        for (int bank = 2; bank < 4; bank++) {
            int into = bank;
            Desks.unchanged("a knob", x -> x.lay(into, 0, 0), WRONG);
            Desks.unchanged("a fader", x -> x.lay(into, 1, 1), WRONG);
        }
    }

    // ---- promise 11: row

    static void promise11_ofIntsIntoABankOfInts() {
        CordBoard x = Desks.ofStripsAndBanks();
        Check.due("row(2, 1, 3)", x.row(2, 1, 3), 0);
        Check.due("what(2, 1)", x.what(2, 1), 103);
        Check.due("an int", x.inner(2, 1, 2, 4), 0);
        Check.due("seen", x.seen(), 0);
        Check.due("what(2, 2)", x.what(2, 2), NONE);
    }

    static void promise11_ofDoublesIntoABankOfDoubles() {
        CordBoard x = Desks.ofStripsAndBanks();
        Check.due("row(3, 1, 3)", x.row(3, 1, 3), 0);
        Check.due("what(3, 1)", x.what(3, 1), 103);
        Check.due("no int", x.inner(3, 1, 2, 4), WRONG);
        Check.due("a double", x.inner(3, 1, 2, 7), 0);
        Check.due("seen", x.seen(), 0);
    }

    static void promise11_of0To16() {
        CordBoard x = Desks.ofStripsAndBanks();
        for (int n = 0; n <= 16; n++) {
            Check.due("row(2, 0, " + n + ")", x.row(2, 0, n), 0);
            Check.due("what(2, 0)", x.what(2, 0), 100 + n);
            Check.due("row(3, 0, " + n + ")", x.row(3, 0, n), 0);
            Check.due("what(3, 0)", x.what(3, 0), 100 + n);
            Check.due("one behind", x.inner(2, 0, n, 4), PLACE);
            if (n > 0) {
                Check.due("the last", x.inner(2, 0, n - 1, 4), 0);
            }
        }
    }

    static void promise11_aNewOneEachTime() {
        CordBoard x = Desks.ofStripsAndBanks();
        x.enter(2, 0, 1, 4, 9);
        x.row(2, 0, 2);
        x.inner(2, 0, 1, 4);
        Check.due("seen", x.seen(), 0);
        x.row(2, 1, 2);
        x.enter(2, 1, 1, 4, 9);
        x.inner(2, 0, 1, 4);
        Check.due("seen of the other one", x.seen(), 0);
    }

    static void promise11_unknownSocket() {
        for (int socket : Desks.NO_SOCKETS) {
            Desks.unchanged("row(" + socket + ", 0, 1)", x -> x.row(socket, 0, 1), UNKNOWN);
        }
    }

    static void promise11_outsideN() {
        for (int n : Desks.NO_WIDTHS) {
            Desks.unchanged("row(2, 0, " + n + ")", x -> x.row(2, 0, n), OUTSIDE);
            Desks.unchanged("row(3, 0, " + n + ")", x -> x.row(3, 0, n), OUTSIDE);
        }
    }

    static void promise11_unknownAheadOfOutside() {
        for (int socket : Desks.NO_SOCKETS) {
            Desks.unchanged("row(" + socket + ", 0, 17)", x -> x.row(socket, 0, 17), UNKNOWN);
        }
    }

    static void promise11_outsideAheadOfCauses() {
        Desks.unchanged("into nothing", x -> x.row(9, 0, 17), OUTSIDE);
        Desks.unchanged("into a knob itself", x -> x.row(5, 0, -1), OUTSIDE);
        Desks.unchanged("at no place", x -> x.row(2, 3, 17), OUTSIDE);
        Desks.unchanged("into a strip", x -> x.row(0, 0, -1), OUTSIDE);
    }

    static void promise11_causeEmpty() {
        Desks.unchanged("row(9, 0, 1)", x -> x.row(9, 0, 1), EMPTY);
    }

    static void promise11_causeWrongAKnobItself() {
        Desks.unchanged("row(5, 0, 1)", x -> x.row(5, 0, 1), WRONG);
        Desks.unchanged("row(5, -1, 1)", x -> x.row(5, -1, 1), WRONG);
    }

    static void promise11_causePlace() {
        for (int i : Desks.NO_PLACES_OF_3) {
            for (int socket = 0; socket < 5; socket++) {
                int into = socket;
                Desks.unchanged("row(" + socket + ", " + i + ", 1)", x -> x.row(into, i, 1), PLACE);
            }
        }
    }

    static void promise11_causeWrongIntoATrackAsNoNumber() {
        Desks.unchanged("ints", x -> x.row(4, 0, 1), WRONG);
        Desks.unchanged("doubles", x -> x.row(8, 0, 1), WRONG);
        Desks.unchanged("truths", x -> x.row(7, 0, 0), WRONG);
    }

    static void promise11_causeWrongIntoStrips() {
        Desks.unchanged("knobs", x -> x.row(0, 2, 1), WRONG);
        Desks.unchanged("faders", x -> x.row(1, 0, 0), WRONG);
    }

    // ---- promise 12: what

    static void promise12_theNumberOfAKnob() {
        CordBoard x = Desks.inUseAndFull();
        for (int knob = 0; knob < 24; knob++) {
            x.lay(0, 0, knob);
            Check.due("what(0, 0)", x.what(0, 0), knob);
        }
    }

    static void promise12_theNumberOfAFader() {
        CordBoard x = Desks.ofStripsAndBanks();
        Check.due("among knobs", x.what(0, 1), 1);
        Check.due("among faders", x.what(1, 1), 1);
    }

    static void promise12_100MoreThanThePlacesOfARow() {
        CordBoard x = Desks.ofStripsAndBanks();
        int[] widths = {0, 1, 15, 16};
        for (int n : widths) {
            x.row(2, 1, n);
            x.row(3, 1, n);
            Check.due("of ints", x.what(2, 1), 100 + n);
            Check.due("of doubles", x.what(3, 1), 100 + n);
        }
    }

    static void promise12_200MoreThanTheKindOfANumber() {
        CordBoard x = Desks.ofTracks();
        for (int kind = 0; kind < 8; kind++) {
            Check.due("what(" + kind + ", 2)", x.what(kind, 2), 200 + kind);
        }
    }

    static void promise12_noneWhereNothingStands() {
        CordBoard x = Desks.ofStripsAndBanks();
        for (int socket = 0; socket < 4; socket++) {
            Check.due("what(" + socket + ", 2)", x.what(socket, 2), NONE);
        }
    }

    static void promise12_unknownSocket() {
        for (int socket : Desks.NO_SOCKETS) {
            Desks.unchanged("what(" + socket + ", 0)", x -> x.what(socket, 0), UNKNOWN);
        }
    }

    static void promise12_causeEmpty() {
        Desks.unchanged("what(9, 0)", x -> x.what(9, 0), EMPTY);
    }

    static void promise12_causeWrongAKnobItself() {
        Desks.unchanged("what(5, 0)", x -> x.what(5, 0), WRONG);
        Desks.unchanged("what(5, -1)", x -> x.what(5, -1), WRONG);
    }

    static void promise12_causePlace() {
        for (int i : Desks.NO_PLACES_OF_3) {
            for (int socket = 0; socket < 5; socket++) {
                int of = socket;
                Desks.unchanged("what(" + socket + ", " + i + ")", x -> x.what(of, i), PLACE);
            }
        }
    }

    // ---- promise 13: inner

    static void promise13_readsAndSeenBecomesIt() {
        CordBoard x = Desks.inUse();
        Check.due("inner(2, 0, 1, 4)", x.inner(2, 0, 1, 4), 0);
        Check.due("seen", x.seen(), 21);
        Check.due("inner(2, 0, 0, 4)", x.inner(2, 0, 0, 4), 0);
        Check.due("seen", x.seen(), 0);
        Check.due("inner(3, 0, 1, 7)", x.inner(3, 0, 1, 7), 0);
        Check.due("seen", x.seen(), Double.doubleToLongBits(31.0));
    }

    static void promise13_readsIntsAsOfEachKindThatTheyGoFor() {
        CordBoard x = Desks.inUse();
        long[] want = {21, 21, Float.floatToIntBits(21f), Double.doubleToLongBits(21.0)};
        for (int kind = 4; kind < 8; kind++) {
            Check.due("inner(2, 0, 1, " + kind + ")", x.inner(2, 0, 1, kind), 0);
            Check.due("seen", x.seen(), want[kind - 4]);
        }
    }

    static void promise13_unknownSocket() {
        for (int socket : Desks.NO_SOCKETS) {
            Desks.unchanged("inner(" + socket + ", 0, 0, 4)", x -> x.inner(socket, 0, 0, 4), UNKNOWN);
        }
    }

    static void promise13_outsideKind() {
        for (int kind : Desks.NO_KINDS) {
            Desks.unchanged("inner(2, 0, 0, " + kind + ")", x -> x.inner(2, 0, 0, kind), OUTSIDE);
        }
    }

    static void promise13_unknownAheadOfOutside() {
        for (int socket : Desks.NO_SOCKETS) {
            Desks.unchanged("inner(" + socket + ", 0, 0, 8)", x -> x.inner(socket, 0, 0, 8), UNKNOWN);
        }
    }

    static void promise13_outsideAheadOfCauses() {
        Desks.unchanged("of nothing", x -> x.inner(9, 0, 0, 8), OUTSIDE);
        Desks.unchanged("at no place", x -> x.inner(2, 3, 0, -1), OUTSIDE);
        Desks.unchanged("where nothing stands", x -> x.inner(2, 2, 0, 8), OUTSIDE);
        Desks.unchanged("at no place of the row", x -> x.inner(2, 0, 2, 8), OUTSIDE);
    }

    static void promise13_causeOfTakeAheadOfTheOnesOfRead() {
        Desks.unchanged("no place, and none of the row", x -> x.inner(2, 3, -1, 0), PLACE);
        Desks.unchanged("a knob itself, and no place", x -> x.inner(5, 0, -1, 4), WRONG);
        Desks.unchanged("no place of a track", x -> x.inner(4, 3, 0, 4), PLACE);
    }

    static void promise13_causeOfTakeEmpty() {
        Desks.unchanged("inner(9, 0, 0, 4)", x -> x.inner(9, 0, 0, 4), EMPTY);
    }

    static void promise13_causeOfTakeWrongAKnobItself() {
        Desks.unchanged("inner(5, 0, 0, 4)", x -> x.inner(5, 0, 0, 4), WRONG);
        Desks.unchanged("inner(5, -1, 0, 4)", x -> x.inner(5, -1, 0, 4), WRONG);
    }

    static void promise13_causeOfTakePlace() {
        for (int i : Desks.NO_PLACES_OF_3) {
            for (int socket = 0; socket < 5; socket++) {
                int of = socket;
                Desks.unchanged("inner(" + socket + ", " + i + ", 0, 4)", x -> x.inner(of, i, 0, 4), PLACE);
            }
        }
    }

    static void promise13_causeOfReadEmptyNothingStandsThere() {
        for (int socket = 0; socket < 4; socket++) {
            int of = socket;
            Desks.unchanged("inner(" + socket + ", 2, 0, 4)", x -> x.inner(of, 2, 0, 4), EMPTY);
            Desks.unchanged("inner(" + socket + ", 2, -1, 0)", x -> x.inner(of, 2, -1, 0), EMPTY);
        }
    }

    static void promise13_causeOfReadWrongAKnobStandsThere() {
        Desks.unchanged("a knob", x -> x.inner(0, 0, 0, 4), WRONG);
        Desks.unchanged("a fader, at no place", x -> x.inner(1, 1, -1, 4), WRONG);
    }

    static void promise13_causeOfReadWrongANumberStandsThere() {
        Desks.unchanged("an int", x -> x.inner(4, 0, 0, 4), WRONG);
        Desks.unchanged("a double, at no place", x -> x.inner(8, 0, -1, 7), WRONG);
        Desks.unchanged("a truth", x -> x.inner(7, 0, 0, 0), WRONG);
    }

    static void promise13_causeOfReadPlaceOfTheRow() {
        for (int j : new int[] {-1, 2, Desks.LEAST, Desks.GREATEST}) {
            Desks.unchanged("inner(2, 0, " + j + ", 4)", x -> x.inner(2, 0, j, 4), PLACE);
            Desks.unchanged("inner(3, 0, " + j + ", 0)", x -> x.inner(3, 0, j, 0), PLACE);
        }
        CordBoard x = Desks.ofStripsAndBanks();
        x.row(2, 0, 0);
        Check.due("of a row without places", x.inner(2, 0, 0, 4), PLACE);
    }

    static void promise13_causeOfReadWrongByKinds() {
        for (int kind = 0; kind < 7; kind++) {
            int as = kind;
            Desks.unchanged("doubles as of " + kind, x -> x.inner(3, 0, 1, as), WRONG);
            if (kind < 4) {
                Desks.unchanged("ints as of " + kind, x -> x.inner(2, 0, 1, as), WRONG);
            }
        }
    }

    // ---- promise 14: enter

    static void promise14_writesAtThePlaceOfTheRow() {
        CordBoard x = Desks.ofStripsAndBanks();
        Check.due("enter(2, 0, 1, 4, -8)", x.enter(2, 0, 1, 4, -8), 0);
        x.inner(2, 0, 1, 4);
        Check.due("seen", x.seen(), -8);
        x.inner(2, 0, 0, 4);
        Check.due("seen beside it", x.seen(), 0);
    }

    static void promise14_writesIntsOfEachKindThatGoes() {
        CordBoard x = Desks.ofStripsAndBanks();
        long[] want = {-1, 65535, -1, -1};
        for (int kind = 1; kind <= 4; kind++) {
            Check.due("enter as of " + kind, x.enter(2, 0, 1, kind, -1), 0);
            x.inner(2, 0, 1, 4);
            Check.due("seen", x.seen(), want[kind - 1]);
        }
    }

    static void promise14_writesDoublesOfEachKindThatGoes() {
        CordBoard x = Desks.ofStripsAndBanks();
        long[] bits = {-3, 65535, -3, -3, -3, Float.floatToIntBits(0.5f), Double.doubleToLongBits(0.1)};
        double[] want = {-3, 65535, -3, -3, -3, 0.5, 0.1};
        for (int kind = 1; kind < 8; kind++) {
            Check.due("enter as of " + kind, x.enter(3, 0, 1, kind, bits[kind - 1]), 0);
            x.inner(3, 0, 1, 7);
            Check.due("seen", x.seen(), Double.doubleToLongBits(want[kind - 1]));
        }
    }

    static void promise14_seenStaysAsItIs() {
        CordBoard x = Desks.inUse();
        long seen = x.seen();
        x.enter(2, 0, 1, 4, 99);
        Check.due("seen()", x.seen(), seen);
    }

    static void promise14_unknownSocket() {
        for (int socket : Desks.NO_SOCKETS) {
            Desks.unchanged("enter(" + socket + ", 0, 0, 4, 5)", x -> x.enter(socket, 0, 0, 4, 5), UNKNOWN);
        }
    }

    static void promise14_outsideKind() {
        for (int kind : Desks.NO_KINDS) {
            Desks.unchanged("enter(2, 0, 0, " + kind + ", 5)", x -> x.enter(2, 0, 0, kind, 5), OUTSIDE);
        }
    }

    static void promise14_outsideNoNumber() {
        Desks.unchanged("a float", x -> x.enter(3, 0, 0, 6, Desks.FLOAT_NAN), OUTSIDE);
        Desks.unchanged("a double", x -> x.enter(3, 0, 0, 7, Desks.DOUBLE_NAN), OUTSIDE);
        Desks.unchanged("what would have a cause too", x -> x.enter(9, 0, 0, 7, -1), OUTSIDE);
    }

    static void promise14_unknownAheadOfOutside() {
        for (int socket : Desks.NO_SOCKETS) {
            Desks.unchanged("and no kind", x -> x.enter(socket, 0, 0, 8, 5), UNKNOWN);
            Desks.unchanged("and no number", x -> x.enter(socket, 0, 0, 7, Desks.DOUBLE_NAN), UNKNOWN);
        }
    }

    static void promise14_outsideAheadOfCauses() {
        Desks.unchanged("no kind into nothing", x -> x.enter(9, 0, 0, 8, 5), OUTSIDE);
        Desks.unchanged("no number at no place", x -> x.enter(3, 3, 0, 7, Desks.DOUBLE_NAN), OUTSIDE);
        Desks.unchanged("no number where nothing stands", x -> x.enter(3, 2, 0, 6, Desks.FLOAT_NAN), OUTSIDE);
        Desks.unchanged("no number that does not go", x -> x.enter(2, 0, 0, 6, Desks.FLOAT_NAN), OUTSIDE);
    }

    static void promise14_causeOfTakeAheadOfTheOnesOfWrite() {
        Desks.unchanged("no place, and none of the row", x -> x.enter(2, 3, -1, 0, 0), PLACE);
        Desks.unchanged("a knob itself, and no place", x -> x.enter(5, 0, -1, 4, 0), WRONG);
        Desks.unchanged("no place of a track", x -> x.enter(4, 3, 0, 4, 5), PLACE);
    }

    static void promise14_causeOfTakeEmpty() {
        Desks.unchanged("enter(9, 0, 0, 4, 5)", x -> x.enter(9, 0, 0, 4, 5), EMPTY);
    }

    static void promise14_causeOfTakeWrongAKnobItself() {
        Desks.unchanged("enter(5, 0, 0, 4, 5)", x -> x.enter(5, 0, 0, 4, 5), WRONG);
        Desks.unchanged("enter(5, -1, 0, 4, 5)", x -> x.enter(5, -1, 0, 4, 5), WRONG);
    }

    static void promise14_causeOfTakePlace() {
        for (int i : Desks.NO_PLACES_OF_3) {
            for (int socket = 0; socket < 5; socket++) {
                int into = socket;
                Desks.unchanged("enter(" + socket + ", " + i + ", 0, 4, 5)", x -> x.enter(into, i, 0, 4, 5), PLACE);
            }
        }
    }

    static void promise14_causeOfWriteEmptyNothingStandsThere() {
        for (int socket = 0; socket < 4; socket++) {
            int into = socket;
            Desks.unchanged("enter(" + socket + ", 2, 0, 4, 5)", x -> x.enter(into, 2, 0, 4, 5), EMPTY);
            Desks.unchanged("enter(" + socket + ", 2, -1, 0, 5)", x -> x.enter(into, 2, -1, 0, 5), EMPTY);
        }
    }

    static void promise14_causeOfWriteWrongAKnobStandsThere() {
        Desks.unchanged("a knob", x -> x.enter(0, 0, 0, 4, 5), WRONG);
        Desks.unchanged("a fader, at no place", x -> x.enter(1, 1, -1, 4, 5), WRONG);
    }

    static void promise14_causeOfWriteWrongANumberStandsThere() {
        Desks.unchanged("an int", x -> x.enter(4, 0, 0, 4, 5), WRONG);
        Desks.unchanged("a double, at no place", x -> x.enter(8, 0, -1, 7, 5), WRONG);
        Desks.unchanged("a truth", x -> x.enter(7, 0, 0, 0, 0), WRONG);
    }

    static void promise14_causeOfWritePlaceOfTheRow() {
        for (int j : new int[] {-1, 2, Desks.LEAST, Desks.GREATEST}) {
            Desks.unchanged("enter(2, 0, " + j + ", 4, 5)", x -> x.enter(2, 0, j, 4, 5), PLACE);
            Desks.unchanged("enter(3, 0, " + j + ", 0, 5)", x -> x.enter(3, 0, j, 0, 5), PLACE);
        }
        CordBoard x = Desks.ofStripsAndBanks();
        x.row(2, 0, 0);
        Check.due("of a row without places", x.enter(2, 0, 0, 4, 5), PLACE);
    }

    static void promise14_causeOfWriteWrongByKinds() {
        for (int kind : new int[] {0, 5, 6, 7}) {
            Desks.unchanged("to ints of " + kind, x -> x.enter(2, 0, 1, kind, 5), WRONG);
        }
        Desks.unchanged("to doubles of a truth", x -> x.enter(3, 0, 1, 0, 1), WRONG);
    }
}
