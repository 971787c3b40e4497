/** Promise 5: split. */
final class SplitTest {
    private static final Expect expect = new Expect();

    public static void main(String[] args) {
        thePlaneIsSplit();
        withoutLevels();
        withoutPlaces();
        moreLevelsThanThereIsToSplit();
        aFullPlane();
        alreadySplit();
        splitAgainAfterJoin();
        expect.end();
    }

    private static void thePlaneIsSplit() {
        for (State state : new State[] {State.WHOLE_INTS, State.WHOLE_REALS, State.JOINED_TO_LESS}) {
            PlaneSplitter p = state.make();
            p.split();
            p.band(2, 0, p.edge(2, 0, 0), p.edge(2, 0, 1));
            expect.refusesState(state + " is split then, fill", p, q -> q.fill(1, 2, 3));
        }
    }

    private static void withoutLevels() {
        for (boolean real : new boolean[] {false, true}) {
            PlaneSplitter p = new PlaneSplitter();
            p.begin(5, 7, 3, 3, 0, real);
            p.fill(3000, 4000, 5000);
            int[] numbers = new int[9];
            for (int k = 0; k < 9; k++) {
                numbers[k] = p.at(5 + k % 3, 7 + k / 3);
            }
            int sum = p.sum();
            p.split();
            expect.equal("no levels: sum", p.sum(), sum);
            for (int k = 0; k < 9; k++) {
                expect.equal("no levels: number " + k, p.band(0, 0, 5 + k % 3, 7 + k / 3), numbers[k]);
            }
        }
        expect.refusesState("split", State.SPLIT_WITHOUT_LEVELS, p -> p.split());
        expect.refusesState("at", State.SPLIT_WITHOUT_LEVELS, p -> p.at(5, 7));
        expect.allows("join(0)", State.SPLIT_WITHOUT_LEVELS, p -> p.join(0));
    }

    private static void withoutPlaces() {
        expect.allows("split", State.WHOLE_WITHOUT_PLACES, p -> p.split());
        PlaneSplitter p = State.WHOLE_WITHOUT_PLACES.make();
        p.split();
        expect.equal("no places: sum", p.sum(), 0);
        expect.refusesState("split", State.SPLIT_WITHOUT_PLACES, q -> q.split());
        expect.allows("join(0)", State.SPLIT_WITHOUT_PLACES, q -> q.join(0));
        expect.allows("join(2)", State.SPLIT_WITHOUT_PLACES, q -> q.join(2));
    }

    /** A line of one even place stays as it is for as many levels as there are. */
    private static void moreLevelsThanThereIsToSplit() {
        for (boolean real : new boolean[] {false, true}) {
            PlaneSplitter p = new PlaneSplitter();
            p.begin(0, 0, 1, 1, 20, real);
            p.set(0, 0, -77);
            p.split();
            expect.equal("at 0, 0 after 20 levels", p.band(20, 0, 0, 0), -77);
            expect.equal("the others are empty", p.sum(), real ? -77 * 8 : -77);
            PlaneSplitter q = new PlaneSplitter();
            // 524,288 is 2 to the 19th: even for 19 levels, and then odd.
            q.begin(524288, 0, 1, 1, 20, real);
            q.set(524288, 0, -77);
            q.split();
            expect.equal("at 524288, 0 after 20 levels", q.band(20, 1, 0, 0), -154);
            expect.equal("its band 0 is empty", q.edge(20, 0, 2), 0);
        }
    }

    private static void aFullPlane() {
        for (boolean real : new boolean[] {false, true}) {
            for (int[] a : new int[][] {{1000000, 999999, 1024, 16}, {999999, 1000000, 16, 1024}, {0, 1, 128, 128}}) {
                PlaneSplitter p = new PlaneSplitter();
                p.begin(a[0], a[1], a[2], a[3], 20, real);
                p.fill(0, 0, 0);
                p.split();
                int numbers = 0;
                for (int level = 1; level <= 20; level++) {
                    for (int band = level == 20 ? 0 : 1; band < 4; band++) {
                        numbers += p.edge(level, band, 2) * p.edge(level, band, 3);
                    }
                }
                expect.equal("all 16,384 numbers are in a band", numbers, 16384);
                int x = p.edge(1, 3, 0) + p.edge(1, 3, 2) - 1;
                int y = p.edge(1, 3, 1) + p.edge(1, 3, 3) - 1;
                expect.isTrue("equal numbers have no high ones", Math.abs(p.bandReal(1, 3, x, y)) < 0.01f);
            }
        }
    }

    private static void alreadySplit() {
        for (State state : State.values()) {
            if (state.name().contains("SPLIT")) {
                expect.refusesState("split", state, p -> p.split());
            } else {
                expect.allows("split", state, p -> p.split());
            }
        }
    }

    private static void splitAgainAfterJoin() {
        PlaneSplitter p = State.SPLIT_INTS.make();
        int sum = p.sum();
        p.join(2);
        p.split();
        expect.equal("the same bands once more", p.sum(), sum);
    }
}
