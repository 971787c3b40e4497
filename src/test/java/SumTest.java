/** Promise 13: sum. */
final class SumTest {
    private static final Expect expect = new Expect();

    public static void main(String[] args) {
        aWholePlaneRowByRow();
        aSplitPlaneBandByBand();
        emptyBandsAddNothing();
        withoutLevels();
        withoutPlaces();
        beginningWithNought();
        wrapping();
        aFullPlane();
        eightTimesAReal();
        inAnyStateAndChangingNothing();
        expect.end();
    }

    private static int chain(int... numbers) {
        int sum = 0;
        for (int n : numbers) {
            sum = sum * 31 + n;
        }
        return sum;
    }

    private static void aWholePlaneRowByRow() {
        for (boolean real : new boolean[] {false, true}) {
            PlaneSplitter p = new PlaneSplitter();
            p.begin(3, 4, 3, 2, 1, real);
            int times = real ? 8 : 1;
            int[] numbers = {1, 2, 3, -4, 50, 6};
            for (int k = 0; k < 6; k++) {
                p.set(3 + k % 3, 4 + k / 3, numbers[k]);
            }
            expect.equal("whole", p.sum(),
                    chain(times, 2 * times, 3 * times, -4 * times, 50 * times, 6 * times));
        }
    }

    private static void aSplitPlaneBandByBand() {
        // Level, band, LEFT, TOP, WIDE and HIGH of the bands, in the order in which they are added.
        int[][] bands = {
            {2, 0, 1, 2, 2, 1}, {2, 1, 1, 2, 1, 1}, {2, 2, 1, 1, 2, 2}, {2, 3, 1, 1, 1, 2}, {1, 1, 1, 3, 4, 3},
            {1, 2, 2, 2, 3, 3}, {1, 3, 1, 2, 4, 3},
        };
        for (State state : new State[] {State.SPLIT_INTS, State.SPLIT_REALS}) {
            PlaneSplitter p = state.make();
            int due = 0;
            int v = 1000;
            for (int[] b : bands) {
                for (int y = b[3]; y < b[3] + b[5]; y++) {
                    for (int x = b[2]; x < b[2] + b[4]; x++) {
                        p.put(b[0], b[1], x, y, v);
                        due = 31 * due + (state == State.SPLIT_REALS ? 8 * v : v);
                        v = v * 3 % 1009 - 400;
                    }
                }
            }
            expect.equal("split", p.sum(), due);
        }
    }

    private static void emptyBandsAddNothing() {
        PlaneSplitter p = new PlaneSplitter();
        p.begin(5, 4, 1, 3, 3, false);
        p.split();
        // Of one odd column all is high across: level 1 has bands 1 (two numbers) and 3 (one) alone.
        p.put(1, 1, 2, 2, 7f);
        p.put(1, 1, 2, 3, 11f);
        p.put(1, 3, 2, 2, -13f);
        expect.equal("with empty bands", p.sum(), chain(7, 11, -13));
    }

    private static void withoutLevels() {
        PlaneSplitter p = new PlaneSplitter();
        p.begin(5, 7, 2, 2, 0, false);
        p.set(5, 7, 4);
        p.set(6, 7, 3);
        p.set(5, 8, 2);
        p.set(6, 8, 1);
        expect.equal("whole", p.sum(), chain(4, 3, 2, 1));
        p.split();
        expect.equal("split", p.sum(), chain(4, 3, 2, 1));
    }

    private static void withoutPlaces() {
        expect.equal("whole", State.WHOLE_WITHOUT_PLACES.make().sum(), 0);
        expect.equal("split", State.SPLIT_WITHOUT_PLACES.make().sum(), 0);
    }

    private static void beginningWithNought() {
        expect.equal("a new object", new PlaneSplitter().sum(), 0);
        PlaneSplitter p = new PlaneSplitter();
        p.set(0, 0, -16777216);
        expect.equal("one number is its own sum", p.sum(), -16777216);
        p.begin(0, 0, 128, 128, 3, true);
        expect.equal("many noughts", p.sum(), 0);
    }

    private static void wrapping() {
        PlaneSplitter p = new PlaneSplitter();
        p.begin(0, 0, 3, 1, 0, false);
        p.set(0, 0, 16777216);
        p.set(1, 0, 16777216);
        p.set(2, 0, 16777216);
        // 993 times 16,777,216 is 16,659,775,488; less 4 times 2 to the 32nd, -520,093,696.
        expect.equal("wrapping", p.sum(), -520093696);
        p.set(0, 0, -16777216);
        p.set(1, 0, 0);
        p.set(2, 0, -1);
        // 961 times -16,777,216 less 1 is -16,122,904,577; and 4 times 2 to the 32nd, 1,056,964,607.
        expect.equal("wrapping the other way", p.sum(), 1056964607);
    }

    private static void aFullPlane() {
        PlaneSplitter p = new PlaneSplitter();
        p.begin(0, 0, 1024, 16, 0, false);
        p.fill(0, 0, 0);
        int due = 0;
        for (int i = 0; i < 16384; i++) {
            due = 31 * due - 32768;
        }
        expect.equal("16,384 numbers", p.sum(), due);
    }

    private static void eightTimesAReal() {
        float[] values = {
            1.3f, -1.3f, 1.2f, -1.2f, 0.124f, -0.124f, 0.125f, -0.125f, 0.1249999f, 0.0f, -0.0f, 1e-40f,
            16777216f, -16777216f, 16777215f, 2097151.9f, 0.99f,
        };
        int[] due = {
            10, -10, 9, -9, 0, 0, 1, -1, 0, 0, 0, 0, 134217728, -134217728, 134217720, 16777215, 7,
        };
        for (int i = 0; i < values.length; i++) {
            PlaneSplitter p = new PlaneSplitter();
            p.begin(0, 0, 1, 1, 0, true);
            p.split();
            p.put(0, 0, 0, 0, values[i]);
            expect.equal("split, of " + values[i], p.sum(), due[i]);
            p.join(0);
            expect.equal("whole, of " + values[i], p.sum(), due[i]);
        }
    }

    private static void inAnyStateAndChangingNothing() {
        for (State state : State.values()) {
            PlaneSplitter p = state.make();
            int sum = p.sum();
            expect.equal("once more in " + state, p.sum(), sum);
            expect.isTrue("the same plane in " + state, State.allOf(p).equals(State.allOf(state.make())));
        }
    }
}
