import java.util.List;

/** Terms, at their end: answers of causes, refusals and their order, and that neither changes anything. */
public final class TermsAnswersTest {
    private static final int NONE = CordBoard.NONE, UNKNOWN = CordBoard.UNKNOWN, OUTSIDE = CordBoard.OUTSIDE,
        FULL = CordBoard.FULL;
    private static final int EMPTY = Desks.EMPTY, WRONG = Desks.WRONG, PLACE = Desks.PLACE;

    public static void main(String[] args) throws ReflectiveOperationException {
        Sentences.run(TermsAnswersTest.class);
    }

    // ---- answers of causes are -10 less them

    static void termsAnswers_causes_emptyIsMinus11() {
        CordBoard x = new CordBoard();
        int[] answers = {x.width(0), x.tap(0, 0, 4), x.dial(0, 0, 4, 0), x.lay(0, 0, NONE), x.row(0, 0, 0),
            x.what(0, 0), x.inner(0, 0, 0, 4), x.enter(0, 0, 0, 4, 0), x.level(0)};
        for (int answer : answers) {
            Check.due("a call on an empty socket", answer, -11);
        }
    }

    static void termsAnswers_causes_wrongIsMinus12() {
        CordBoard x = new CordBoard();
        x.knob(0, false);
        x.mount(0, 0);
        int[] answers = {x.width(0), x.tap(0, 0, 4), x.dial(0, 0, 4, 0), x.lay(0, 0, NONE), x.row(0, 0, 0),
            x.what(0, 0), x.inner(0, 0, 0, 4), x.enter(0, 0, 0, 4, 0), x.level(0)};
        for (int answer : answers) {
            Check.due("a call on a knob itself", answer, -12);
        }
    }

    static void termsAnswers_causes_placeIsMinus13() {
        CordBoard x = new CordBoard();
        x.plug(0, 4, 1);
        x.plug(1, 10, 1);
        int[] answers = {x.tap(0, 1, 4), x.dial(0, 1, 4, 0), x.lay(1, 1, NONE), x.row(1, 1, 0), x.what(0, 1),
            x.inner(1, 1, 0, 4), x.enter(1, 1, 0, 4, 0)};
        for (int answer : answers) {
            Check.due("a call on no place", answer, -13);
        }
    }

    static void termsAnswers_causes_toldOfACableAre1To3() {
        CordBoard x = Desks.ofTracks();
        Desks.carries(x, "EMPTY", Desks.at(9, 0), Desks.at(0, 0), -1, 1, 0);
        Desks.carries(x, "WRONG", Desks.at(8, 0), Desks.at(0, 0), -1, 2, 0);
        Desks.carries(x, "PLACE", Desks.at(0, 3), Desks.at(0, 0), -1, 3, 0);
    }

    // ---- refusals come ahead of causes

    static void termsAnswers_aheadOfCauses_noKind() {
        CordBoard x = Desks.ofTracks();
        for (int kind : Desks.NO_KINDS) {
            Check.due("tap of nothing", x.tap(9, 0, kind), OUTSIDE);
            Check.due("tap of a knob itself", x.tap(8, 0, kind), OUTSIDE);
            Check.due("tap of no place", x.tap(4, 3, kind), OUTSIDE);
            Check.due("dial to nothing", x.dial(9, 0, kind, 0), OUTSIDE);
            Check.due("inner of nothing", x.inner(9, 0, 0, kind), OUTSIDE);
            Check.due("inner of no place", x.inner(4, 3, 0, kind), OUTSIDE);
            Check.due("enter to nothing", x.enter(9, 0, 0, kind, 0), OUTSIDE);
        }
    }

    static void termsAnswers_aheadOfCauses_noNumber() {
        CordBoard x = Desks.ofTracks();
        Check.due("dial to nothing", x.dial(9, 0, 6, Desks.FLOAT_NAN), OUTSIDE);
        Check.due("dial to a knob itself", x.dial(8, 0, 7, Desks.DOUBLE_NAN), OUTSIDE);
        Check.due("dial to no place", x.dial(7, 3, 7, Desks.DOUBLE_NAN), OUTSIDE);
        Check.due("dial of what does not go", x.dial(4, 0, 7, Desks.DOUBLE_NAN), OUTSIDE);
        Check.due("enter to nothing", x.enter(9, 0, 0, 6, Desks.FLOAT_NAN), OUTSIDE);
        Check.due("enter to a number", x.enter(4, 0, 0, 7, Desks.DOUBLE_NAN), OUTSIDE);
    }

    static void termsAnswers_aheadOfCauses_noKnob() {
        CordBoard x = Desks.ofTracks();
        Check.due("lay into nothing", x.lay(9, 0, 2), UNKNOWN);
        Check.due("lay into a knob itself", x.lay(8, 0, 2), UNKNOWN);
        Check.due("lay at no place", x.lay(4, 3, -2), UNKNOWN);
    }

    static void termsAnswers_aheadOfCauses_noWidth() {
        CordBoard x = Desks.ofTracks();
        for (int n : Desks.NO_WIDTHS) {
            Check.due("row into nothing", x.row(9, 0, n), OUTSIDE);
            Check.due("row into a knob itself", x.row(8, 0, n), OUTSIDE);
            Check.due("row at no place", x.row(4, 3, n), OUTSIDE);
        }
    }

    // ---- of several the one told first

    static void termsAnswers_first_unknownAheadOfOutside() {
        CordBoard x = new CordBoard();
        x.cable(0, 0, 0, 0, 0, 0, 0, 0);
        for (int socket : Desks.NO_SOCKETS) {
            Check.due("plug, sort", x.plug(socket, 12, 0), UNKNOWN);
            Check.due("plug, n", x.plug(socket, 0, 17), UNKNOWN);
            Check.due("tap", x.tap(socket, 0, 8), UNKNOWN);
            Check.due("dial, kind", x.dial(socket, 0, 8, 0), UNKNOWN);
            Check.due("dial, no number", x.dial(socket, 0, 7, Desks.DOUBLE_NAN), UNKNOWN);
            Check.due("row", x.row(socket, 0, 17), UNKNOWN);
            Check.due("inner", x.inner(socket, 0, 0, 8), UNKNOWN);
            Check.due("enter, kind", x.enter(socket, 0, 0, 8, 0), UNKNOWN);
            Check.due("enter, no number", x.enter(socket, 0, 0, 7, Desks.DOUBLE_NAN), UNKNOWN);
            Check.due("cable, from", x.cable(socket, 0, 5, 0, 0, 5, 8, 3), UNKNOWN);
            Check.due("cable, to", x.cable(0, 0, 5, socket, 0, 5, 8, 3), UNKNOWN);
        }
        Check.due("told", x.told(1, 7), UNKNOWN);
    }

    static void termsAnswers_first_unknownAheadOfFull() {
        CordBoard x = Desks.inUseAndFull();
        Check.due("cable, from", x.cable(10, 0, 0, 0, 0, 0, 0, 0), UNKNOWN);
        Check.due("cable, to", x.cable(0, 0, 0, -1, 0, 0, 0, 0), UNKNOWN);
    }

    static void termsAnswers_first_outsideAheadOfFull() {
        CordBoard x = Desks.inUseAndFull();
        Check.due("cable, step from", x.cable(0, 0, 5, 0, 0, 0, 0, 0), OUTSIDE);
        Check.due("cable, step to", x.cable(0, 0, 0, 0, 0, -5, 0, 0), OUTSIDE);
        Check.due("cable, way", x.cable(0, 0, 0, 0, 0, 0, 8, 0), OUTSIDE);
        Check.due("cable, rule", x.cable(0, 0, 0, 0, 0, 0, 0, 3), OUTSIDE);
    }

    // ---- what is refused changes nothing

    static void termsAnswers_refusedChangesNothing_plug() {
        Desks.unchanged("plug of no sort", x -> x.plug(4, 12, 1), OUTSIDE);
        Desks.unchanged("plug of too many", x -> x.plug(4, 4, 17), OUTSIDE);
        Desks.unchanged("plug of too few", x -> x.plug(4, 4, -1), OUTSIDE);
        Desks.unchanged("plug into none", x -> x.plug(10, 4, 1), UNKNOWN);
    }

    static void termsAnswers_refusedChangesNothing_knob() {
        Desks.unchangedWhenFull("knob", x -> x.knob(99, false), FULL);
        Desks.unchangedWhenFull("fader", x -> x.knob(99, true), FULL);
    }

    static void termsAnswers_refusedChangesNothing_mount() {
        Desks.unchanged("mount of none", x -> x.mount(4, 2), UNKNOWN);
        Desks.unchanged("mount of nothing", x -> x.mount(4, NONE), UNKNOWN);
        Desks.unchanged("mount into none", x -> x.mount(10, 0), UNKNOWN);
    }

    static void termsAnswers_refusedChangesNothing_share() {
        Desks.unchanged("share from none", x -> x.share(4, 10), UNKNOWN);
        Desks.unchanged("share into none", x -> x.share(-1, 4), UNKNOWN);
    }

    static void termsAnswers_refusedChangesNothing_width() {
        Desks.unchanged("width", x -> x.width(10), UNKNOWN);
    }

    static void termsAnswers_refusedChangesNothing_tap() {
        Desks.unchanged("tap of none", x -> x.tap(10, 0, 4), UNKNOWN);
        Desks.unchanged("tap as of none", x -> x.tap(4, 0, 8), OUTSIDE);
    }

    static void termsAnswers_refusedChangesNothing_dial() {
        Desks.unchanged("dial to none", x -> x.dial(10, 0, 4, 5), UNKNOWN);
        Desks.unchanged("dial as of none", x -> x.dial(4, 0, 8, 5), OUTSIDE);
        Desks.unchanged("dial of no number", x -> x.dial(8, 0, 7, Desks.DOUBLE_NAN), OUTSIDE);
    }

    static void termsAnswers_refusedChangesNothing_lay() {
        Desks.unchanged("lay into none", x -> x.lay(10, 0, 0), UNKNOWN);
        Desks.unchanged("lay of none", x -> x.lay(0, 0, 2), UNKNOWN);
    }

    static void termsAnswers_refusedChangesNothing_row() {
        Desks.unchanged("row into none", x -> x.row(10, 0, 1), UNKNOWN);
        Desks.unchanged("row of too many", x -> x.row(2, 0, 17), OUTSIDE);
        Desks.unchanged("row of too few", x -> x.row(2, 0, -1), OUTSIDE);
    }

    static void termsAnswers_refusedChangesNothing_what() {
        Desks.unchanged("what", x -> x.what(10, 0), UNKNOWN);
    }

    static void termsAnswers_refusedChangesNothing_inner() {
        Desks.unchanged("inner of none", x -> x.inner(10, 0, 0, 4), UNKNOWN);
        Desks.unchanged("inner as of none", x -> x.inner(2, 0, 0, 8), OUTSIDE);
    }

    static void termsAnswers_refusedChangesNothing_enter() {
        Desks.unchanged("enter into none", x -> x.enter(10, 0, 0, 4, 5), UNKNOWN);
        Desks.unchanged("enter as of none", x -> x.enter(2, 0, 0, 8, 5), OUTSIDE);
        Desks.unchanged("enter of no number", x -> x.enter(3, 0, 0, 7, Desks.DOUBLE_NAN), OUTSIDE);
    }

    static void termsAnswers_refusedChangesNothing_cable() {
        Desks.unchanged("cable from none", x -> x.cable(10, 0, 0, 0, 0, 0, 0, 0), UNKNOWN);
        Desks.unchanged("cable outside", x -> x.cable(0, 0, 0, 0, 0, 0, 0, 3), OUTSIDE);
        Desks.unchangedWhenFull("one more cable", x -> x.cable(0, 0, 0, 0, 0, 0, 0, 0), FULL);
    }

    static void termsAnswers_refusedChangesNothing_inAndOut() {
        Desks.unchanged("in of none", x -> x.in(2), UNKNOWN);
        Desks.unchanged("out of none", x -> x.out(2), UNKNOWN);
    }

    static void termsAnswers_refusedChangesNothing_tick() {
        Desks.unchanged("tick of too many", x -> x.tick(9), OUTSIDE);
        Desks.unchanged("tick of too few", x -> x.tick(-1), OUTSIDE);
    }

    static void termsAnswers_refusedChangesNothing_toldLevelAbout() {
        Desks.unchanged("told of none", x -> x.told(2, 0), UNKNOWN);
        Desks.unchanged("told of what is not", x -> x.told(0, 7), OUTSIDE);
        Desks.unchanged("level of none", x -> x.level(10), UNKNOWN);
        Desks.unchanged("about what is not", x -> x.about(5), OUTSIDE);
    }

    // ---- what has a cause changes nothing

    static void termsAnswers_causeChangesNothing_width() {
        Desks.unchanged("width of nothing", x -> x.width(9), EMPTY);
        Desks.unchanged("width of a knob itself", x -> x.width(5), WRONG);
    }

    static void termsAnswers_causeChangesNothing_tap() {
        Desks.unchanged("tap of nothing", x -> x.tap(9, 0, 4), EMPTY);
        Desks.unchanged("tap of no track", x -> x.tap(0, 0, 4), WRONG);
        Desks.unchanged("tap of no place", x -> x.tap(4, 3, 4), PLACE);
        Desks.unchanged("tap of what does not go", x -> x.tap(4, 0, 3), WRONG);
    }

    static void termsAnswers_causeChangesNothing_dial() {
        Desks.unchanged("dial to nothing", x -> x.dial(9, 0, 4, 5), EMPTY);
        Desks.unchanged("dial to no track", x -> x.dial(0, 0, 4, 5), WRONG);
        Desks.unchanged("dial to no place", x -> x.dial(4, 3, 4, 5), PLACE);
        Desks.unchanged("dial of what does not go", x -> x.dial(4, 0, 5, 5), WRONG);
    }

    static void termsAnswers_causeChangesNothing_lay() {
        Desks.unchanged("lay into nothing", x -> x.lay(9, 0, 0), EMPTY);
        Desks.unchanged("lay into a knob itself", x -> x.lay(5, 0, 1), WRONG);
        Desks.unchanged("lay of nothing into a track", x -> x.lay(4, 0, NONE), WRONG);
        Desks.unchanged("lay of a knob into a track", x -> x.lay(4, 0, 0), WRONG);
        Desks.unchanged("lay at no place", x -> x.lay(0, 3, 0), PLACE);
        Desks.unchanged("lay of a knob over a fader", x -> x.lay(1, 1, 0), WRONG);
        Desks.unchanged("lay of a knob over a row", x -> x.lay(2, 0, 0), WRONG);
    }

    static void termsAnswers_causeChangesNothing_row() {
        Desks.unchanged("row into nothing", x -> x.row(9, 0, 1), EMPTY);
        Desks.unchanged("row into a knob itself", x -> x.row(5, 0, 1), WRONG);
        Desks.unchanged("row into a track", x -> x.row(4, 0, 1), WRONG);
        Desks.unchanged("row at no place", x -> x.row(2, 3, 1), PLACE);
        Desks.unchanged("row over a knob", x -> x.row(0, 0, 1), WRONG);
    }

    static void termsAnswers_causeChangesNothing_what() {
        Desks.unchanged("what of nothing", x -> x.what(9, 0), EMPTY);
        Desks.unchanged("what of a knob itself", x -> x.what(5, 0), WRONG);
        Desks.unchanged("what at no place", x -> x.what(2, 3), PLACE);
    }

    static void termsAnswers_causeChangesNothing_inner() {
        Desks.unchanged("inner of nothing", x -> x.inner(9, 0, 0, 4), EMPTY);
        Desks.unchanged("inner of a knob itself", x -> x.inner(5, 0, 0, 4), WRONG);
        Desks.unchanged("inner at no place", x -> x.inner(2, 3, 0, 4), PLACE);
        Desks.unchanged("inner where nothing stands", x -> x.inner(2, 1, 0, 4), EMPTY);
        Desks.unchanged("inner of a number", x -> x.inner(4, 0, 0, 4), WRONG);
        Desks.unchanged("inner at no inner place", x -> x.inner(2, 0, 2, 4), PLACE);
        Desks.unchanged("inner of what does not go", x -> x.inner(2, 0, 1, 3), WRONG);
    }

    static void termsAnswers_causeChangesNothing_enter() {
        Desks.unchanged("enter into nothing", x -> x.enter(9, 0, 0, 4, 5), EMPTY);
        Desks.unchanged("enter into a knob itself", x -> x.enter(5, 0, 0, 4, 5), WRONG);
        Desks.unchanged("enter at no place", x -> x.enter(2, 3, 0, 4, 5), PLACE);
        Desks.unchanged("enter where nothing stands", x -> x.enter(2, 1, 0, 4, 5), EMPTY);
        Desks.unchanged("enter into a number", x -> x.enter(4, 0, 0, 4, 5), WRONG);
        Desks.unchanged("enter at no inner place", x -> x.enter(2, 0, 2, 4, 5), PLACE);
        Desks.unchanged("enter of what does not go", x -> x.enter(2, 0, 1, 5, 5), WRONG);
    }

    static void termsAnswers_causeChangesNothing_level() {
        Desks.unchanged("level of nothing", x -> x.level(9), EMPTY);
        Desks.unchanged("level of a knob itself", x -> x.level(5), WRONG);
        Desks.unchanged("level of a strip", x -> x.level(0), WRONG);
        Desks.unchanged("level of doubles", x -> x.level(8), WRONG);
    }

    /** The cables stand apart from the sockets, so that two desks with other cables can be compared by these. */
    static void termsAnswers_causeChangesNothing_tickButWhatItTells() {
        int[][] ends = {{9, 0, 4, 0}, {4, 0, 9, 0}, {5, 0, 4, 0}, {4, 0, 5, 0}, {4, 3, 4, 0}, {4, 0, 4, 3},
            {0, 0, 1, 0}, {0, 2, 4, 0}, {2, 0, 3, 0}, {4, 0, 2, 0}};
        CordBoard x = Desks.inUse();
        x.out(0);
        for (int[] end : ends) {
            x.cable(end[0], end[1], 0, end[2], end[3], 0, -1, 1);
        }
        CordBoard y = Desks.inUse();
        y.out(0);
        for (int[] end : ends) {
            y.cable(end[0], end[1], 0, end[2], end[3], 0, -1, 1);
        }
        Check.due("no cable moves", x.tick(1), 0);
        for (int n = 2; n < 12; n++) {
            Check.due("causes of cable " + n, x.told(n, Desks.CAUSES), 1);
        }
        Check.due("seen", x.seen(), y.seen());
        Check.isTrue("the sockets are as they were", socketsOf(x).equals(socketsOf(y)));
    }

    private static List<Long> socketsOf(CordBoard x) {
        List<Long> all = Desks.picture(x);
        int ahead = 1 + 5 + x.about(0) + 7 * x.about(1);
        return all.subList(ahead, all.size());
    }

    static void termsAnswers_noCallEverThrows() {
        int[] any = {Integer.MIN_VALUE, -2, -1, 0, 1, 9, 10, 16, 17, Integer.MAX_VALUE};
        for (int a : any) {
            for (int b : any) {
                everyCall(Desks.inUse(), a, b);
                everyCall(Desks.inUseAndFull(), a, b);
                everyCall(new CordBoard(), a, b);
            }
        }
    }

    private static void everyCall(CordBoard x, int a, int b) {
        x.tap(a, b, 4);
        x.tap(4, a, b);
        x.dial(a, b, 4, b);
        x.dial(4, a, b, -1);
        x.lay(a, b, 0);
        x.lay(0, a, b);
        x.row(a, b, 3);
        x.row(2, a, b);
        x.what(a, b);
        x.inner(a, b, b, 4);
        x.inner(2, a, b, 4);
        x.inner(2, 0, a, b);
        x.enter(a, b, b, 4, b);
        x.enter(2, a, b, 4, b);
        x.enter(3, 0, a, b, -1);
        x.cable(a, b, b, a, b, b, b, b);
        x.cable(2, a, b, 4, b, a, -1, 1);
        x.cable(4, a, 4, 4, b, -4, 4, 1);
        x.told(a, b);
        x.in(a);
        x.out(b);
        x.tick(a);
        x.tick(8);
        x.level(a);
        x.width(a);
        x.gain(a);
        x.about(a);
        x.knob(a, b > 0);
        x.share(a, b);
        x.mount(a, b);
        x.plug(a, b, b);
        x.plug(a, 4, b);
        x.tick(8);
        x.seen();
    }
}
