/** Promises 7 and 8: at and real. */
final class AtTest {
    private static final int MIN = Integer.MIN_VALUE;
    private static final int MAX = Integer.MAX_VALUE;

    private static final Expect expect = new Expect();

    public static void main(String[] args) {
        theNumberAtAPlace();
        aRealWithoutItsFraction();
        anIntAsTheFloatNextToIt();
        aRealIsReadAsItIs();
        noSuchPlace();
        placesAtTheEndsOfTheGrid();
        noPlaceWithoutPlaces();
        ofASplitPlane();
        argumentsBeforeState();
        expect.end();
    }

    private static void theNumberAtAPlace() {
        for (State state : new State[] {State.WHOLE_INTS, State.WHOLE_REALS}) {
            PlaneSplitter p = state.make();
            for (int j = 0; j < 6; j++) {
                for (int i = 0; i < 7; i++) {
                    int due = (12345 * i + 6789 * j + 1011 * i * j) % 65536 - 32768;
                    expect.equal("at " + i + ", " + j + " of " + state, p.at(3 + i, 5 + j), due);
                    expect.equalReal("real " + i + ", " + j + " of " + state, p.real(3 + i, 5 + j), due);
                }
            }
        }
    }

    private static void aRealWithoutItsFraction() {
        float[] values = {2.99f, -2.99f, 0.5f, -0.5f, 0.99999994f, -0.99999994f, 16777215f, -16777215f, 16777216f,
            -16777216f, 8388607.5f, -8388607.5f, 1e-30f, -0.0f, Float.MIN_VALUE, 1f, -1f};
        int[] due = {2, -2, 0, 0, 0, 0, 16777215, -16777215, 16777216, -16777216, 8388607, -8388607, 0, 0, 0, 1, -1};
        for (int i = 0; i < values.length; i++) {
            PlaneSplitter p = new PlaneSplitter();
            p.begin(0, 0, 1, 1, 0, true);
            p.split();
            p.put(0, 0, 0, 0, values[i]);
            p.join(0);
            expect.equal("at of " + values[i], p.at(0, 0), due[i]);
        }
    }

    private static void aRealIsReadAsItIs() {
        float[] values = {2.99f, -2.99f, 0.1f, -0.0f, 0.0f, Float.MIN_VALUE, -1e-38f, 16777216f, -16777216f};
        for (float v : values) {
            PlaneSplitter p = new PlaneSplitter();
            p.begin(0, 0, 1, 1, 0, true);
            p.split();
            p.put(0, 0, 0, 0, v);
            p.join(0);
            expect.equalReal("real of " + v, p.real(0, 0), v);
        }
    }

    /** An int beyond 16,777,216 may lie between two floats. */
    private static void anIntAsTheFloatNextToIt() {
        // Of two places joined the even one is low less half of high (of 2 high + 2 a quarter), the
        // odd one is high more than that.
        int[] highs = {3, 5, 6, -5};
        int[] odd = {16777217, 16777218, 16777219, 16777213};
        float[] due = {16777216f, 16777218f, 16777220f, 16777213f};
        for (int i = 0; i < highs.length; i++) {
            PlaneSplitter p = new PlaneSplitter();
            p.begin(0, 0, 2, 1, 1, false);
            p.split();
            p.put(1, 0, 0, 0, 16777216f);
            p.put(1, 1, 0, 0, highs[i]);
            p.join(1);
            expect.equal("at of a large int", p.at(1, 0), odd[i]);
            expect.equalReal("real of a large int", p.real(1, 0), due[i]);
        }
        PlaneSplitter p = new PlaneSplitter();
        p.begin(0, 0, 2, 1, 1, false);
        p.split();
        p.put(1, 0, 0, 0, -16777216f);
        p.put(1, 1, 0, 0, -3f);
        p.join(1);
        expect.equal("at of a large negative int", p.at(1, 0), -16777218);
        p.split();
        p.put(1, 1, 0, 0, -2f);
        p.join(1);
        expect.equal("at of a large negative int", p.at(1, 0), -16777217);
        expect.equalReal("real of a large negative int", p.real(1, 0), -16777216f);
    }

    private static void noSuchPlace() {
        int[][] beside = {
            {2, 5}, {10, 5}, {3, 4}, {3, 11}, {2, 10}, {10, 10}, {9, 4}, {9, 11}, {0, 0}, {-1, -1}, {-3, 5}, {3, -5},
            {MAX, 5}, {MIN, 5}, {3, MAX}, {3, MIN}, {MIN, MIN}, {MAX, MAX},
        };
        for (State state : new State[] {State.WHOLE_INTS, State.WHOLE_REALS}) {
            for (int[] a : beside) {
                refusedPlace(state, a[0], a[1]);
            }
        }
        for (int[] a : new int[][] {{1, 3}, {5, 3}, {2, 2}, {2, 6}, {9, 10}}) {
            refusedPlace(State.JOINED_TO_LESS, a[0], a[1]);
        }
        for (int[] a : new int[][] {{2, 3}, {4, 3}, {2, 5}, {4, 5}}) {
            allowedPlace(State.JOINED_TO_LESS, a[0], a[1]);
        }
        for (int[] a : new int[][] {{5, 7}, {7, 7}, {5, 8}, {7, 8}}) {
            allowedPlace(State.WHOLE_WITHOUT_LEVELS, a[0], a[1]);
        }
        for (int[] a : new int[][] {{4, 7}, {8, 7}, {5, 6}, {5, 9}}) {
            refusedPlace(State.WHOLE_WITHOUT_LEVELS, a[0], a[1]);
        }
    }

    private static void refusedPlace(State state, int x, int y) {
        expect.refusesArgument("at(" + x + ", " + y + ")", state, p -> p.at(x, y));
        expect.refusesArgument("real(" + x + ", " + y + ")", state, p -> p.real(x, y));
    }

    private static void allowedPlace(State state, int x, int y) {
        expect.allows("at(" + x + ", " + y + ")", state, p -> p.at(x, y));
        expect.allows("real(" + x + ", " + y + ")", state, p -> p.real(x, y));
    }

    private static void placesAtTheEndsOfTheGrid() {
        for (int[] a : new int[][] {{1000000, 1000000}, {1001023, 1000000}, {1000000, 1000015}, {1001023, 1000015}}) {
            allowedPlace(State.FULL_WHOLE, a[0], a[1]);
        }
        for (int[] a : new int[][] {{999999, 1000000}, {1001024, 1000000}, {1000000, 999999}, {1000000, 1000016}}) {
            refusedPlace(State.FULL_WHOLE, a[0], a[1]);
        }
        refusedPlace(State.NEW, -1, 0);
        refusedPlace(State.NEW, 0, -1);
    }

    private static void noPlaceWithoutPlaces() {
        for (int[] a : new int[][] {{2, 1}, {1, 1}, {3, 1}, {2, 0}, {2, 2}, {5, 4}, {0, 0}}) {
            refusedPlace(State.WHOLE_WITHOUT_PLACES, a[0], a[1]);
        }
    }

    private static void ofASplitPlane() {
        for (State state : new State[] {State.SPLIT_INTS, State.SPLIT_REALS}) {
            for (int[] a : new int[][] {{3, 5}, {9, 10}}) {
                expect.refusesState("at(" + a[0] + ", " + a[1] + ")", state, p -> p.at(a[0], a[1]));
                expect.refusesState("real(" + a[0] + ", " + a[1] + ")", state, p -> p.real(a[0], a[1]));
            }
        }
        expect.refusesState("at(5, 7)", State.SPLIT_WITHOUT_LEVELS, p -> p.at(5, 7));
        expect.refusesState("real(5, 7)", State.SPLIT_WITHOUT_LEVELS, p -> p.real(5, 7));
    }

    /** The document does not say which comes first; this is the order in which it tells them. */
    private static void argumentsBeforeState() {
        refusedPlace(State.SPLIT_INTS, 2, 5);
        refusedPlace(State.SPLIT_REALS, 9, 11);
        refusedPlace(State.SPLIT_WITHOUT_PLACES, 2, 1);
    }
}
