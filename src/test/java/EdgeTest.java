/** Promise 9: edge. */
final class EdgeTest {
    private static final int MIN = Integer.MIN_VALUE;
    private static final int MAX = Integer.MAX_VALUE;

    private static final Expect expect = new Expect();

    public static void main(String[] args) {
        ofAPlaneSplitOrWhole();
        withoutLevels();
        asThePlaneIsAfterJoin();
        lowAndHighPlaces();
        emptyBands();
        withManyLevels();
        farOnTheGrid();
        noSuchBand();
        bandNoughtOfTheLastLevelAlone();
        noSuchW();
        expect.end();
    }

    private static void edgesAre(String what, PlaneSplitter p, int level, int band, int... due) {
        for (int w = 0; w < 4; w++) {
            expect.equal(what + ": edge(" + level + ", " + band + ", " + w + ")", p.edge(level, band, w), due[w]);
        }
    }

    private static void ofAPlaneSplitOrWhole() {
        for (State state : new State[] {State.WHOLE_INTS, State.SPLIT_INTS, State.WHOLE_REALS, State.SPLIT_REALS}) {
            PlaneSplitter p = state.make();
            edgesAre(state.name(), p, 1, 1, 1, 3, 4, 3);
            edgesAre(state.name(), p, 1, 2, 2, 2, 3, 3);
            edgesAre(state.name(), p, 1, 3, 1, 2, 4, 3);
            edgesAre(state.name(), p, 2, 0, 1, 2, 2, 1);
            edgesAre(state.name(), p, 2, 1, 1, 2, 1, 1);
            edgesAre(state.name(), p, 2, 2, 1, 1, 2, 2);
            edgesAre(state.name(), p, 2, 3, 1, 1, 1, 2);
        }
    }

    private static void withoutLevels() {
        for (State state : new State[] {State.WHOLE_WITHOUT_LEVELS, State.SPLIT_WITHOUT_LEVELS}) {
            edgesAre(state.name(), state.make(), 0, 0, 5, 7, 3, 2);
        }
        edgesAre("new", State.NEW.make(), 0, 0, 0, 0, 1, 1);
    }

    private static void asThePlaneIsAfterJoin() {
        // At 2, 3, three wide and three high.
        PlaneSplitter p = State.JOINED_TO_LESS.make();
        for (int round = 0; round < 2; round++) {
            edgesAre("joined to 1", p, 1, 1, 1, 2, 1, 1);
            edgesAre("joined to 1", p, 1, 2, 1, 1, 2, 2);
            edgesAre("joined to 1", p, 1, 3, 1, 1, 1, 2);
            edgesAre("joined to 1", p, 2, 0, 1, 1, 1, 1);
            edgesAre("joined to 1", p, 2, 1, 0, 1, 1, 1);
            edgesAre("joined to 1", p, 2, 2, 1, 1, 1, 0);
            edgesAre("joined to 1", p, 2, 3, 0, 1, 1, 0);
            if (round == 0) {
                p.split();
            }
        }
        p.join(2);
        edgesAre("joined to 2 of that", p, 2, 0, 1, 1, 1, 1);
        PlaneSplitter q = State.SPLIT_INTS.make();
        q.join(2);
        edgesAre("joined in all", q, 2, 0, 1, 2, 2, 1);
    }

    /** Places 2 k are low, places 2 k + 1 high ones, at k. */
    private static void lowAndHighPlaces() {
        for (int left = 0; left < 6; left++) {
            for (int wide = 1; wide < 6; wide++) {
                PlaneSplitter p = new PlaneSplitter();
                p.begin(left, left, wide, wide, 1, false);
                int lows = 0;
                int highs = 0;
                int firstLow = -1;
                int firstHigh = -1;
                for (int place = left + wide - 1; place >= left; place--) {
                    if (place % 2 == 0) {
                        lows++;
                        firstLow = place / 2;
                    } else {
                        highs++;
                        firstHigh = place / 2;
                    }
                }
                String what = wide + " from " + left;
                expect.equal(what + ": WIDE of the low ones", p.edge(1, 0, 2), lows);
                expect.equal(what + ": HIGH of the low ones", p.edge(1, 0, 3), lows);
                expect.equal(what + ": WIDE of the high ones", p.edge(1, 3, 2), highs);
                expect.equal(what + ": HIGH of the high ones", p.edge(1, 3, 3), highs);
                expect.equal(what + ": WIDE of band 1", p.edge(1, 1, 2), highs);
                expect.equal(what + ": HIGH of band 1", p.edge(1, 1, 3), lows);
                expect.equal(what + ": WIDE of band 2", p.edge(1, 2, 2), lows);
                expect.equal(what + ": HIGH of band 2", p.edge(1, 2, 3), highs);
                if (lows > 0) {
                    expect.equal(what + ": LEFT of the low ones", p.edge(1, 0, 0), firstLow);
                    expect.equal(what + ": TOP of the low ones", p.edge(1, 1, 1), firstLow);
                }
                if (highs > 0) {
                    expect.equal(what + ": LEFT of the high ones", p.edge(1, 1, 0), firstHigh);
                    expect.equal(what + ": TOP of the high ones", p.edge(1, 2, 1), firstHigh);
                }
            }
        }
    }

    /**
     * The document does not say where a band without places lies; here it is at the place that its
     * first number would have.
     */
    private static void emptyBands() {
        PlaneSplitter p = new PlaneSplitter();
        p.begin(5, 4, 1, 1, 2, false);
        for (int round = 0; round < 2; round++) {
            edgesAre("at 5, 4", p, 1, 1, 2, 2, 1, 1);
            edgesAre("at 5, 4", p, 1, 2, 3, 2, 0, 0);
            edgesAre("at 5, 4", p, 1, 3, 2, 2, 1, 0);
            edgesAre("at 5, 4", p, 2, 0, 2, 1, 0, 1);
            edgesAre("at 5, 4", p, 2, 1, 1, 1, 0, 1);
            edgesAre("at 5, 4", p, 2, 2, 2, 1, 0, 0);
            edgesAre("at 5, 4", p, 2, 3, 1, 1, 0, 0);
            if (round == 0) {
                p.split();
            }
        }
        for (State state : new State[] {State.WHOLE_WITHOUT_PLACES, State.SPLIT_WITHOUT_PLACES}) {
            // At 2, 1, none wide and one high.
            PlaneSplitter q = state.make();
            edgesAre(state.name(), q, 1, 1, 1, 1, 0, 0);
            edgesAre(state.name(), q, 1, 2, 1, 0, 0, 1);
            edgesAre(state.name(), q, 1, 3, 1, 0, 0, 1);
            edgesAre(state.name(), q, 2, 0, 1, 1, 0, 0);
            edgesAre(state.name(), q, 2, 3, 0, 0, 0, 0);
        }
    }

    private static void withManyLevels() {
        PlaneSplitter p = new PlaneSplitter();
        p.begin(1000000, 0, 1024, 16, 20, true);
        edgesAre("20 levels", p, 20, 0, 1, 0, 0, 1);
        edgesAre("20 levels", p, 20, 1, 1, 0, 0, 1);
        edgesAre("20 levels", p, 10, 1, 977, 0, 1, 1);
        edgesAre("20 levels", p, 1, 3, 500000, 0, 512, 8);
        p.begin(524288, 0, 1, 1, 20, false);
        edgesAre("20 levels from 524288", p, 20, 0, 1, 0, 0, 1);
        edgesAre("20 levels from 524288", p, 20, 1, 0, 0, 1, 1);
        p.begin(0, 0, 1, 1, 20, false);
        edgesAre("20 levels from 0", p, 20, 0, 0, 0, 1, 1);
        edgesAre("20 levels from 0", p, 20, 3, 0, 0, 0, 0);
        p.begin(0, 0, 1024, 1, 10, false);
        edgesAre("10 levels", p, 10, 0, 0, 0, 1, 1);
        edgesAre("10 levels", p, 10, 1, 0, 0, 1, 1);
        edgesAre("10 levels", p, 9, 1, 0, 0, 2, 1);
    }

    private static void farOnTheGrid() {
        PlaneSplitter p = State.FULL_SPLIT.make();
        // The first places, 999,999, are odd; each second one from them on is.
        edgesAre("far", p, 1, 1, 499999, 500000, 8, 512);
        edgesAre("far", p, 1, 2, 500000, 499999, 8, 512);
        edgesAre("far", p, 1, 3, 499999, 499999, 8, 512);
        edgesAre("far", p, 2, 0, 250000, 250000, 4, 256);
    }

    private static void noSuchBand() {
        int[][] wrong = {
            {1, 4}, {2, 4}, {1, 5}, {2, 7}, {1, -1}, {2, -1}, {2, -4}, {1, MAX}, {2, MIN}, {0, 1}, {0, 2}, {0, 3},
            {-1, 0}, {-1, 1}, {-1, 3}, {3, 0}, {3, 1}, {3, 2}, {3, 3}, {20, 1}, {21, 1}, {31, 1}, {32, 1}, {33, 1},
            {MAX, 0}, {MAX, 1}, {MIN, 0}, {MIN, 1}, {MIN, 3}, {0, 0}, {1, 0},
        };
        State[] states = {
            State.WHOLE_INTS, State.SPLIT_INTS, State.WHOLE_REALS, State.SPLIT_REALS, State.JOINED_TO_LESS,
            State.WHOLE_WITHOUT_PLACES, State.SPLIT_WITHOUT_PLACES,
        };
        for (State state : states) {
            for (int[] a : wrong) {
                expect.refusesArgument("edge(" + a[0] + ", " + a[1] + ", 0)", state, p -> p.edge(a[0], a[1], 0));
            }
            for (int level = 1; level <= 2; level++) {
                for (int band = level == 2 ? 0 : 1; band < 4; band++) {
                    int l = level;
                    int b = band;
                    expect.allows("edge(" + l + ", " + b + ", 0)", state, p -> p.edge(l, b, 0));
                }
            }
        }
        int[][] wrongWithoutLevels = {{0, 1}, {0, 2}, {0, 3}, {0, 4}, {0, -1}, {1, 0}, {1, 1}, {-1, 0}, {MAX, 0}, {MIN, 0}};
        for (State state : new State[] {State.NEW, State.WHOLE_WITHOUT_LEVELS, State.SPLIT_WITHOUT_LEVELS}) {
            for (int[] a : wrongWithoutLevels) {
                expect.refusesArgument("edge(" + a[0] + ", " + a[1] + ", 0)", state, p -> p.edge(a[0], a[1], 0));
            }
            expect.allows("edge(0, 0, 0)", state, p -> p.edge(0, 0, 0));
        }
    }

    private static void bandNoughtOfTheLastLevelAlone() {
        for (int levels = 0; levels <= 20; levels++) {
            for (int level = 0; level <= 21; level++) {
                PlaneSplitter p = new PlaneSplitter();
                p.begin(0, 0, 4, 4, levels, false);
                int l = level;
                if (level == levels) {
                    expect.equal("of " + levels + " levels band 0 of the last", p.edge(level, 0, 0), 0);
                } else {
                    expect.refusesArgument("of " + levels + " levels band 0 of " + level, p, q -> q.edge(l, 0, 0));
                }
            }
        }
    }

    private static void noSuchW() {
        for (State state : State.values()) {
            boolean without = state == State.NEW || state.name().endsWith("LEVELS");
            int level = without ? 0 : 2;
            for (int w : new int[] {-1, -2, 4, 5, MIN, MAX}) {
                expect.refusesArgument("edge(" + level + ", 0, " + w + ")", state, p -> p.edge(level, 0, w));
            }
            for (int w : new int[] {0, 1, 2, 3}) {
                expect.allows("edge(" + level + ", 0, " + w + ")", state, p -> p.edge(level, 0, w));
            }
        }
    }
}
