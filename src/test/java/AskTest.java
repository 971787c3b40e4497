/**
 * Promises 7 to 11 and 13: a call that only asks changes nothing. Each is made in each state, as
 * often as the document's words leave it free, and then all answers must be those of a plane that
 * was not asked.
 */
final class AskTest {
    private static final Expect expect = new Expect();

    public static void main(String[] args) {
        for (State state : State.values()) {
            changesNothing("edge", state, p -> askEdges(p, state));
            changesNothing("sum", state, PlaneSplitter::sum);
            if (state.name().contains("SPLIT")) {
                changesNothing("band", state, p -> askBands(p, state));
            } else {
                changesNothing("at", state, AskTest::askPlaces);
            }
        }
        expect.end();
    }

    private static void changesNothing(String what, State state, Expect.Call call) {
        PlaneSplitter p = state.make();
        call.on(p);
        call.on(p);
        expect.isTrue(what + " changes nothing in " + state, State.allOf(p).equals(State.allOf(state.make())));
    }

    private static int levelsOf(State state) {
        return state == State.NEW || state.name().endsWith("WITHOUT_LEVELS") ? 0 : 2;
    }

    private static int endOfBands(State state) {
        return levelsOf(state) == 0 ? 1 : 4;
    }

    private static void askEdges(PlaneSplitter p, State state) {
        for (int band = 0; band < endOfBands(state); band++) {
            for (int w = 0; w < 4; w++) {
                p.edge(levelsOf(state), band, w);
            }
        }
    }

    /** The first place of each band of the last level that has one. */
    private static void askBands(PlaneSplitter p, State state) {
        int level = levelsOf(state);
        for (int band = 0; band < endOfBands(state); band++) {
            if (p.edge(level, band, 2) * p.edge(level, band, 3) > 0) {
                p.band(level, band, p.edge(level, band, 0), p.edge(level, band, 1));
                p.bandReal(level, band, p.edge(level, band, 0), p.edge(level, band, 1));
            }
        }
    }

    /** Places of some of the states; where there is no such place, asking for it changes nothing either. */
    private static void askPlaces(PlaneSplitter p) {
        for (int[] a : new int[][] {{0, 0}, {3, 5}, {9, 10}, {5, 7}, {2, 3}, {2, 1}, {1000000, 1000000}}) {
            try {
                p.at(a[0], a[1]);
                p.real(a[0], a[1]);
            } catch (IllegalArgumentException e) {
                continue;
            }
        }
    }
}
