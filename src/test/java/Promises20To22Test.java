/** Promises 20 to 22: level, gain, about. */
public final class Promises20To22Test {
    private static final int UNKNOWN = CordBoard.UNKNOWN, OUTSIDE = CordBoard.OUTSIDE;
    private static final int EMPTY = Desks.EMPTY, WRONG = Desks.WRONG;

    public static void main(String[] args) throws ReflectiveOperationException {
        Sentences.run(Promises20To22Test.class);
    }

    // ---- promise 20: level

    static void promise20_allPlacesTogether() {
        CordBoard x = Desks.ofInts();
        level(x, 0, 46);
        x.plug(2, 4, 16);
        for (int i = 0; i < 16; i++) {
            x.dial(2, i, 4, 1 << i);
        }
        level(x, 2, 65535);
    }

    static void promise20_ofOnePlace() {
        CordBoard x = new CordBoard();
        x.plug(0, 5, 1);
        x.dial(0, 0, 5, -77);
        level(x, 0, -77);
    }

    static void promise20_readAsLongOfEachKindThatGoesForIt() {
        CordBoard x = Desks.ofTracks();
        long[] want = {-3, 3 * 65535, -3, -3, -3};
        for (int kind = 1; kind <= 5; kind++) {
            for (int i = 0; i < 3; i++) {
                x.dial(kind, i, kind, -1);
            }
            level(x, kind, want[kind - 1]);
        }
    }

    static void promise20_intsTogetherAreALongAndDoNotWrap() {
        CordBoard x = new CordBoard();
        x.plug(0, 4, 2);
        x.dial(0, 0, 4, Integer.MAX_VALUE);
        x.dial(0, 1, 4, Integer.MAX_VALUE);
        level(x, 0, 4294967294L);
    }

    static void promise20_wrappingAboveTheGreatest() {
        CordBoard x = new CordBoard();
        x.plug(0, 5, 2);
        x.dial(0, 0, 5, Long.MAX_VALUE);
        x.dial(0, 1, 5, 2);
        level(x, 0, Long.MIN_VALUE + 1);
    }

    static void promise20_wrappingBelowTheLeast() {
        CordBoard x = new CordBoard();
        x.plug(0, 5, 2);
        x.dial(0, 0, 5, Long.MIN_VALUE);
        x.dial(0, 1, 5, -1);
        level(x, 0, Long.MAX_VALUE);
        x.dial(0, 1, 5, Long.MIN_VALUE);
        level(x, 0, 0);
    }

    static void promise20_leavesThePlacesAsTheyAre() {
        CordBoard x = Desks.ofInts();
        x.level(0);
        Desks.ints(x, 0, 10, 11, 12, 13);
    }

    private static void level(CordBoard x, int socket, long want) {
        Check.due("level(" + socket + ")", x.level(socket), 0);
        Check.due("seen()", x.seen(), want);
    }

    static void promise20_unknown() {
        for (int socket : Desks.NO_SOCKETS) {
            Desks.unchanged("level(" + socket + ")", x -> x.level(socket), UNKNOWN);
        }
    }

    static void promise20_empty() {
        Desks.unchanged("level(9)", x -> x.level(9), EMPTY);
    }

    static void promise20_wrongByKinds() {
        for (int kind : new int[] {0, 6, 7}) {
            CordBoard x = Desks.ofTracks();
            x.dial(5, 0, 5, 9);
            x.tap(5, 0, 5);
            Check.due("level of kind " + kind, x.level(kind), WRONG);
            Check.due("seen()", x.seen(), 9);
        }
    }

    static void promise20_wrongStripsAndBanksWithPlaces() {
        for (int sort = 8; sort < 12; sort++) {
            CordBoard x = new CordBoard();
            x.plug(0, sort, 1);
            Check.due("level of sort " + sort + ", nothing in it", x.level(0), WRONG);
        }
        for (int socket = 0; socket < 4; socket++) {
            int of = socket;
            Desks.unchanged("level(" + socket + "), something in it", x -> x.level(of), WRONG);
        }
    }

    static void promise20_wrongAKnobItself() {
        Desks.unchanged("level(5)", x -> x.level(5), WRONG);
    }

    static void promise20_0OfARowWithoutPlacesWhateverItsSort() {
        for (int sort = 0; sort < 12; sort++) {
            CordBoard x = Desks.ofInts();
            x.tap(0, 0, 4);
            x.plug(2, sort, 0);
            level(x, 2, 0);
        }
    }

    // ---- promise 21: gain

    static void promise21_ofAKnobAndOfAFader() {
        CordBoard x = new CordBoard();
        x.knob(17, false);
        x.knob(-18, true);
        Check.due("gain(0)", x.gain(0), 17);
        Check.due("gain(1)", x.gain(1), -18);
    }

    static void promise21_leastAndGreatest() {
        CordBoard x = new CordBoard();
        x.knob(Desks.LEAST, false);
        x.knob(Desks.GREATEST, true);
        Check.due("gain(0)", x.gain(0), Desks.LEAST);
        Check.due("gain(1)", x.gain(1), Desks.GREATEST);
    }

    static void promise21_theLastKnobOfAll() {
        Check.due("gain(23)", Desks.inUseAndFull().gain(23), 23);
    }

    static void promise21_whereverTheKnobIs() {
        CordBoard x = new CordBoard();
        x.knob(17, true);
        x.plug(0, 8, 2);
        x.lay(0, 0, 0);
        x.mount(1, 0);
        Check.due("gain(0)", x.gain(0), 17);
        x.plug(0, 13, 0);
        x.plug(1, 13, 0);
        Check.due("gain(0)", x.gain(0), 17);
    }

    static void promise21_0WhereThereIsNone() {
        CordBoard x = Desks.inUse();
        for (int knob : new int[] {-1, 2, 23, 24, Desks.LEAST, Desks.GREATEST}) {
            Check.due("gain(" + knob + ")", x.gain(knob), 0);
        }
        Check.due("gain(24) where there are 24", Desks.inUseAndFull().gain(24), 0);
    }

    // ---- promise 22: about

    static void promise22_howManyKnobs() {
        CordBoard x = new CordBoard();
        for (int n = 0; n <= 24; n++) {
            Check.due("about(0)", x.about(0), n);
            x.knob(n, n % 2 == 0);
        }
        Check.due("about(0) after a refusal", x.about(0), 24);
    }

    static void promise22_howManyCables() {
        CordBoard x = new CordBoard();
        for (int n = 0; n <= 12; n++) {
            Check.due("about(1)", x.about(1), n);
            x.cable(0, 0, 0, 0, 0, 0, 0, 0);
        }
        Check.due("about(1) after a refusal", x.about(1), 12);
        x.out(0);
        Check.due("about(1) with one out", x.about(1), 12);
    }

    static void promise22_howManyOfThemIn() {
        CordBoard x = Desks.ofInts();
        x.cable(0, 0, 0, 1, 0, 0, 4, 0);
        x.cable(9, 0, 0, 1, 0, 0, 4, 0);
        x.cable(9, 0, 0, 1, 0, 0, 4, 1);
        Check.due("about(2)", x.about(2), 3);
        x.tick(1);
        Check.due("about(2) after a cause", x.about(2), 2);
        x.out(0);
        x.out(0);
        Check.due("about(2) after out", x.about(2), 1);
        x.in(0);
        x.in(1);
        x.in(1);
        Check.due("about(2) after in", x.about(2), 3);
    }

    static void promise22_ticksSinceTheBeginning() {
        CordBoard x = Desks.ofInts();
        x.tick(5);
        x.cable(9, 0, 0, 1, 0, 0, 4, 0);
        x.tick(8);
        x.tick(0);
        x.tick(9);
        x.tick(-1);
        Check.due("about(3)", x.about(3), 13);
    }

    static void promise22_movesOfAllCables() {
        CordBoard x = Desks.ofInts();
        x.cable(0, 0, 0, 1, 0, 0, 4, 0);
        x.cable(0, 1, 1, 1, 0, 0, 4, 0);
        x.tick(5);
        Check.due("about(4)", x.about(4), 5 + 3);
        x.in(1);
        x.tick(1);
        Check.due("about(4)", x.about(4), 5 + 3 + 2);
        x.out(0);
        x.out(1);
        x.tick(8);
        Check.due("about(4)", x.about(4), 5 + 3 + 2);
    }

    static void promise22_outsideWhat() {
        for (int what : new int[] {-1, 5, Desks.LEAST, Desks.GREATEST}) {
            Desks.unchanged("about(" + what + ")", x -> x.about(what), OUTSIDE);
        }
    }
}
