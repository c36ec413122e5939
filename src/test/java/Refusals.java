/** Calls that are refused: with the exception that is due, and with nothing changed behind them. */
final class Refusals {
    private static final int[] MISSING = {-1, Halls.DROPPED, Halls.NEXT, 39, 40, Integer.MAX_VALUE, Integer.MIN_VALUE};

    private final Kit kit;

    Refusals(Kit kit) {
        this.kit = kit;
    }

    interface OnNumber {
        Object on(Discoverhall x, int number);
    }

    interface OnSign {
        Object on(Discoverhall x, char sign);
    }

    void refused(String what, String due, Probes.Make make, Probes.Ask call) {
        kit.due(what, due, () -> call.on(make.hall()));
        kit.due(what + ", and what it changes", "", () -> Probes.differenceBy(make, call));
    }

    /** Refused where there is room for more. */
    void refusedByBusy(String what, String due, Probes.Ask call) {
        refused(what, due, Halls::busy, call);
    }

    /** Refused where nothing has room. */
    void refusedByFull(String what, String due, Probes.Ask call) {
        refused(what, due, Halls::full, call);
    }

    /** A paper that is not there: below the first, dropped, not added yet, past all that can be. */
    void missingPaper(String what, OnNumber call) {
        for (int paper : MISSING) {
            refusedByBusy(what + ", no paper " + paper, Kit.INDEX, x -> call.on(x, paper));
        }
        refusedByFull(what + ", full, dropped", Kit.INDEX, x -> call.on(x, Halls.DROPPED));
        refusedByFull(what + ", full, past the last", Kit.INDEX, x -> call.on(x, Halls.PAST));
    }

    /** A term that is not there: of the busy hall's 6, and past the full hall's 8. */
    void missingTerm(String what, OnNumber call) {
        for (int term : new int[] {-1, 6, 7, 8, Integer.MAX_VALUE, Integer.MIN_VALUE}) {
            refusedByBusy(what + ", no term " + term, Kit.INDEX, x -> call.on(x, term));
        }
        refusedByFull(what + ", full, no term 8", Kit.INDEX, x -> call.on(x, 8));
    }

    /** The first number on either side that is not allowed, and the farthest ones. */
    void outside(String what, int least, int most, OnNumber call) {
        for (int number : new int[] {least - 1, most + 1, Integer.MIN_VALUE, Integer.MAX_VALUE}) {
            refusedByBusy(what + " " + number, Kit.ARGUMENT, x -> call.on(x, number));
        }
    }

    /** Signs that are none of those that are allowed. */
    void noneOf(String what, String signs, OnSign call) {
        for (char sign : signs.toCharArray()) {
            refusedByBusy(what + " sign " + (int) sign, Kit.ARGUMENT, x -> call.on(x, sign));
        }
    }
}
