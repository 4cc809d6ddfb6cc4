/** Promises 1 to 6: a new object, plug, knob, mount, share, width. */
public final class Promises1To6Test {
    private static final int NONE = CordBoard.NONE, UNKNOWN = CordBoard.UNKNOWN, OUTSIDE = CordBoard.OUTSIDE;
    private static final int EMPTY = Desks.EMPTY, WRONG = Desks.WRONG, PLACE = Desks.PLACE;

    public static void main(String[] args) throws ReflectiveOperationException {
        Sentences.run(Promises1To6Test.class);
    }

    // ---- promise 1: a new object

    static void promise1_nothingInTheSockets() {
        CordBoard x = new CordBoard();
        for (int socket = 0; socket < 10; socket++) {
            Check.due("width(" + socket + ")", x.width(socket), EMPTY);
            Check.due("what(" + socket + ", 0)", x.what(socket, 0), EMPTY);
        }
    }

    static void promise1_noKnobs() {
        CordBoard x = new CordBoard();
        Check.due("about(0)", x.about(0), 0);
        Check.due("gain(0)", x.gain(0), 0);
        Check.due("mount(0, 0)", x.mount(0, 0), UNKNOWN);
        Check.due("the first one's number", x.knob(7, false), 0);
    }

    static void promise1_noCables() {
        CordBoard x = new CordBoard();
        Check.due("about(1)", x.about(1), 0);
        Check.due("about(2)", x.about(2), 0);
        Check.due("told(0, 0)", x.told(0, 0), UNKNOWN);
        Check.due("the first one's number", x.cable(0, 0, 0, 0, 0, 0, 0, 0), 0);
    }

    static void promise1_noTicksAndNoMoves() {
        CordBoard x = new CordBoard();
        Check.due("about(3)", x.about(3), 0);
        Check.due("about(4)", x.about(4), 0);
    }

    static void promise1_eachObjectStandsByItself() {
        CordBoard x = new CordBoard();
        CordBoard y = new CordBoard();
        x.plug(0, 4, 5);
        x.knob(3, false);
        x.cable(0, 0, 0, 0, 1, 0, 4, 0);
        x.tick(2);
        x.dial(0, 0, 4, 9);
        x.tap(0, 0, 4);
        Desks.unchanged("another object", y, new CordBoard(), desk -> desk.about(0), 0);
    }

    // ---- promise 2: plug

    static void promise2_eachSortWithTheMostPlaces() {
        CordBoard x = new CordBoard();
        for (int sort = 0; sort < 12; sort++) {
            Check.due("plug(3, " + sort + ", 16)", x.plug(3, sort, 16), 1);
            Check.due("width", x.width(3), 16);
            Check.due("what", x.what(3, 15), sort < 8 ? 200 + sort : NONE);
            Check.due("what behind", x.what(3, 16), PLACE);
        }
    }

    static void promise2_eachSortWithoutPlaces() {
        CordBoard x = new CordBoard();
        for (int sort = 0; sort < 12; sort++) {
            Check.due("plug(3, " + sort + ", 0)", x.plug(3, sort, 0), 1);
            Check.due("width", x.width(3), 0);
            Check.due("what", x.what(3, 0), PLACE);
        }
    }

    static void promise2_sorts8And9AreStripsOfKnobsAndOfFaders() {
        CordBoard x = new CordBoard();
        x.knob(0, false);
        x.knob(0, true);
        x.plug(0, 8, 1);
        x.plug(1, 9, 1);
        Check.due("a knob among knobs", x.lay(0, 0, 0), 0);
        Check.due("a knob among faders", x.lay(1, 0, 0), WRONG);
        Check.due("a fader among faders", x.lay(1, 0, 1), 0);
    }

    static void promise2_sorts10And11AreBanksOfIntsAndOfDoubles() {
        CordBoard x = new CordBoard();
        x.plug(0, 10, 1);
        x.plug(1, 11, 1);
        x.row(0, 0, 1);
        x.row(1, 0, 1);
        Check.due("an int as of an int", x.inner(0, 0, 0, 4), 0);
        Check.due("a double as of a float", x.inner(1, 0, 0, 6), WRONG);
        Check.due("a double as of a double", x.inner(1, 0, 0, 7), 0);
    }

    static void promise2_aNewRowEachTime() {
        CordBoard x = new CordBoard();
        x.plug(0, 4, 2);
        x.dial(0, 0, 4, 8);
        x.plug(0, 4, 2);
        Desks.stands(x, 0, 0, 4, 0);
        x.knob(0, false);
        x.plug(0, 8, 2);
        x.lay(0, 1, 0);
        x.plug(0, 8, 2);
        Check.due("what", x.what(0, 1), NONE);
    }

    static void promise2_inPlaceOfAKnobItself() {
        CordBoard x = new CordBoard();
        x.knob(0, false);
        x.mount(0, 0);
        Check.due("plug", x.plug(0, 4, 2), 1);
        Check.due("width", x.width(0), 2);
    }

    static void promise2_13IsNothing() {
        CordBoard x = Desks.ofStripsAndBanks();
        for (int socket = 0; socket < 10; socket++) {
            Check.due("plug(" + socket + ", 13, 0)", x.plug(socket, 13, 0), 1);
            Check.due("width", x.width(socket), EMPTY);
        }
    }

    static void promise2_13DoesNotLookAtN() {
        int[] any = {-1, 16, 17, Desks.LEAST, Desks.GREATEST};
        for (int n : any) {
            CordBoard x = Desks.ofInts();
            Check.due("plug(0, 13, " + n + ")", x.plug(0, 13, n), 1);
            Check.due("width", x.width(0), EMPTY);
        }
    }

    static void promise2_unknownSocket() {
        for (int socket : Desks.NO_SOCKETS) {
            Desks.unchanged("plug(" + socket + ", 4, 1)", x -> x.plug(socket, 4, 1), UNKNOWN);
            Desks.unchanged("plug(" + socket + ", 13, 0)", x -> x.plug(socket, 13, 0), UNKNOWN);
        }
    }

    static void promise2_outsideSort() {
        int[] sorts = {-1, 12, 14, Desks.LEAST, Desks.GREATEST};
        for (int sort : sorts) {
            Desks.unchanged("plug(4, " + sort + ", 1)", x -> x.plug(4, sort, 1), OUTSIDE);
        }
    }

    static void promise2_outsideNTooSmall() {
        for (int sort = 0; sort < 12; sort++) {
            int of = sort;
            Desks.unchanged("plug(4, " + sort + ", -1)", x -> x.plug(4, of, -1), OUTSIDE);
            Desks.unchanged("plug(4, " + sort + ", least)", x -> x.plug(4, of, Desks.LEAST), OUTSIDE);
        }
    }

    static void promise2_outsideNTooLarge() {
        for (int sort = 0; sort < 12; sort++) {
            int of = sort;
            Desks.unchanged("plug(4, " + sort + ", 17)", x -> x.plug(4, of, 17), OUTSIDE);
            Desks.unchanged("plug(4, " + sort + ", greatest)", x -> x.plug(4, of, Desks.GREATEST), OUTSIDE);
        }
    }

    static void promise2_unknownAheadOfOutside() {
        for (int socket : Desks.NO_SOCKETS) {
            Desks.unchanged("and no sort", x -> x.plug(socket, 12, 1), UNKNOWN);
            Desks.unchanged("and too many", x -> x.plug(socket, 4, 17), UNKNOWN);
            Desks.unchanged("and too few", x -> x.plug(socket, 8, -1), UNKNOWN);
        }
    }

    // ---- promise 3: knob

    static void promise3_numbersFrom0To23() {
        CordBoard x = new CordBoard();
        for (int number = 0; number < 24; number++) {
            Check.due("knob", x.knob(number, number % 2 == 1), number);
            Check.due("how many", x.about(0), number + 1);
        }
    }

    static void promise3_anyGain() {
        CordBoard x = new CordBoard();
        int[] gains = {0, -1, 1, Desks.LEAST, Desks.GREATEST};
        for (int gain : gains) {
            Check.due("gain", x.gain(x.knob(gain, true)), gain);
            Check.due("gain", x.gain(x.knob(gain, false)), gain);
        }
    }

    static void promise3_aFaderOrNot() {
        CordBoard x = new CordBoard();
        x.knob(5, false);
        x.knob(5, true);
        x.plug(0, 9, 1);
        Check.due("a knob is no fader", x.lay(0, 0, 0), WRONG);
        Check.due("a fader is one", x.lay(0, 0, 1), 0);
    }

    static void promise3_full() {
        Desks.unchangedWhenFull("knob 24", x -> x.knob(5, false), CordBoard.FULL);
        Desks.unchangedWhenFull("fader 24", x -> x.knob(5, true), CordBoard.FULL);
        CordBoard x = Desks.inUseAndFull();
        x.knob(5, false);
        Check.due("the one refused is not there", x.gain(24), 0);
        Check.due("nor can it be mounted", x.mount(0, 24), UNKNOWN);
    }

    // ---- promise 4: mount

    static void promise4_aKnobItself() {
        CordBoard x = new CordBoard();
        x.knob(5, false);
        Check.due("mount(9, 0)", x.mount(9, 0), 1);
        Check.due("width(9)", x.width(9), WRONG);
        Check.due("what(9, 0)", x.what(9, 0), WRONG);
    }

    static void promise4_aFaderToo() {
        CordBoard x = new CordBoard();
        x.knob(5, true);
        Check.due("mount(0, 0)", x.mount(0, 0), 1);
        Check.due("width(0)", x.width(0), WRONG);
    }

    static void promise4_inPlaceOfWhatWasThere() {
        CordBoard x = Desks.ofInts();
        x.knob(5, true);
        Check.due("mount(0, 0)", x.mount(0, 0), 1);
        Check.due("tap(0, 0, 4)", x.tap(0, 0, 4), WRONG);
        Check.due("mount(0, 0) again", x.mount(0, 0), 1);
    }

    static void promise4_oneKnobInEachSocket() {
        CordBoard x = new CordBoard();
        x.knob(5, true);
        for (int socket = 0; socket < 10; socket++) {
            Check.due("mount", x.mount(socket, 0), 1);
            Check.due("width", x.width(socket), WRONG);
        }
    }

    static void promise4_theLastKnobOfAll() {
        CordBoard x = Desks.inUseAndFull();
        Check.due("mount(0, 23)", x.mount(0, 23), 1);
    }

    static void promise4_unknownSocket() {
        for (int socket : Desks.NO_SOCKETS) {
            Desks.unchanged("mount(" + socket + ", 0)", x -> x.mount(socket, 0), UNKNOWN);
        }
    }

    static void promise4_unknownKnob() {
        int[] knobs = {NONE, 2, 23, 24, Desks.LEAST, Desks.GREATEST};
        for (int knob : knobs) {
            Desks.unchanged("mount(4, " + knob + ")", x -> x.mount(4, knob), UNKNOWN);
        }
    }

    // ---- promise 5: share

    static void promise5_theSameTrack() {
        CordBoard x = Desks.ofInts();
        Check.due("share(2, 0)", x.share(2, 0), 1);
        x.dial(2, 1, 4, 77);
        Desks.stands(x, 0, 1, 4, 77);
        x.dial(0, 2, 4, 78);
        Desks.stands(x, 2, 2, 4, 78);
    }

    static void promise5_theSameStripAndBank() {
        CordBoard x = Desks.ofStripsAndBanks();
        x.share(6, 0);
        x.lay(6, 2, 1);
        Check.due("what(0, 2)", x.what(0, 2), 1);
        x.share(7, 2);
        x.row(2, 1, 9);
        Check.due("what(7, 1)", x.what(7, 1), 109);
        x.enter(7, 1, 8, 4, 5);
        x.inner(2, 1, 8, 4);
        Check.due("seen", x.seen(), 5);
    }

    static void promise5_theSameKnob() {
        CordBoard x = Desks.ofStripsAndBanks();
        Check.due("share(6, 5)", x.share(6, 5), 1);
        Check.due("width(6)", x.width(6), WRONG);
    }

    static void promise5_nothing() {
        CordBoard x = Desks.ofInts();
        Check.due("share(0, 9)", x.share(0, 9), 1);
        Check.due("width(0)", x.width(0), EMPTY);
    }

    static void promise5_withItself() {
        CordBoard x = Desks.ofInts();
        Check.due("share(0, 0)", x.share(0, 0), 1);
        Desks.ints(x, 0, 10, 11, 12, 13);
        Check.due("share(9, 9)", x.share(9, 9), 1);
        Check.due("width(9)", x.width(9), EMPTY);
    }

    static void promise5_theOtherOneHoldsItStill() {
        CordBoard x = Desks.ofInts();
        x.share(2, 0);
        Desks.ints(x, 0, 10, 11, 12, 13);
        x.plug(0, 13, 0);
        Desks.ints(x, 2, 10, 11, 12, 13);
        x.plug(0, 4, 4);
        x.dial(0, 0, 4, 99);
        Desks.ints(x, 2, 10, 11, 12, 13);
    }

    static void promise5_whatIsHeldThenNotWhatComesLater() {
        CordBoard x = Desks.ofInts();
        x.share(2, 9);
        x.plug(9, 4, 7);
        Check.due("width(2)", x.width(2), EMPTY);
    }

    static void promise5_unknownSocket() {
        for (int socket : Desks.NO_SOCKETS) {
            Desks.unchanged("share(" + socket + ", 4)", x -> x.share(socket, 4), UNKNOWN);
            Desks.unchanged("share(4, " + socket + ")", x -> x.share(4, socket), UNKNOWN);
        }
    }

    // ---- promise 6: width

    static void promise6_from0To16OfEachSort() {
        for (int sort = 0; sort < 12; sort++) {
            CordBoard x = new CordBoard();
            for (int n = 0; n <= 16; n++) {
                x.plug(0, sort, n);
                Check.due("width of sort " + sort, x.width(0), n);
            }
        }
    }

    static void promise6_unknownSocket() {
        for (int socket : Desks.NO_SOCKETS) {
            Check.due("width(" + socket + ")", Desks.inUse().width(socket), UNKNOWN);
        }
    }

    static void promise6_empty() {
        CordBoard x = Desks.inUse();
        Check.due("width(9)", x.width(9), EMPTY);
    }

    static void promise6_wrongAKnobItself() {
        CordBoard x = Desks.inUse();
        Check.due("of a knob", x.width(5), WRONG);
        x.mount(5, 1);
        Check.due("of a fader", x.width(5), WRONG);
    }
}
