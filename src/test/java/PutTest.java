/** Promise 12: put. */
final class PutTest {
    private static final int MIN = Integer.MIN_VALUE;
    private static final int MAX = Integer.MAX_VALUE;

    private static final Expect expect = new Expect();

    /** Level, band, LEFT, TOP, WIDE and HIGH of the bands of a plane at 3, 5, seven wide and six high. */
    private static final int[][] BANDS = {
        {1, 1, 1, 3, 4, 3}, {1, 2, 2, 2, 3, 3}, {1, 3, 1, 2, 4, 3}, {2, 0, 1, 2, 2, 1}, {2, 1, 1, 2, 1, 1},
        {2, 2, 1, 1, 2, 2}, {2, 3, 1, 1, 1, 2},
    };

    public static void main(String[] args) {
        theNumberBecomesV();
        inAPlaneOfIntsWithoutItsFraction();
        theOthersStay();
        vFromLeastToMost();
        noNumberAtAll();
        noSuchPlace();
        noPlaceInAnEmptyBand();
        noSuchBand();
        bandNoughtOfLevelNought();
        farOnTheGrid();
        ofAWholePlane();
        argumentsBeforeState();
        whatWasPutIsJoined();
        expect.end();
    }

    private static void theNumberBecomesV() {
        float[] values = {0f, -0.0f, 2.75f, -2.75f, 0.1f, 1e-40f, -Float.MIN_VALUE, 123456.78f};
        for (int[] b : BANDS) {
            for (float v : values) {
                PlaneSplitter p = State.SPLIT_REALS.make();
                int x = b[2] + b[4] - 1;
                int y = b[3] + b[5] - 1;
                p.put(b[0], b[1], b[2], b[3], v);
                expect.equalReal("put " + v + " at the first place", p.bandReal(b[0], b[1], b[2], b[3]), v);
                p.put(b[0], b[1], x, y, v);
                expect.equalReal("put " + v + " at the last place", p.bandReal(b[0], b[1], x, y), v);
            }
        }
    }

    private static void inAPlaneOfIntsWithoutItsFraction() {
        float[] values = {0f, -0.0f, 2.75f, -2.75f, 0.999f, -0.999f, 1e-40f, 16777215f, 8388607.5f, -8388607.5f, 0.5f};
        int[] due = {0, 0, 2, -2, 0, 0, 0, 16777215, 8388607, -8388607, 0};
        for (int i = 0; i < values.length; i++) {
            PlaneSplitter p = State.SPLIT_INTS.make();
            p.put(1, 3, 2, 4, values[i]);
            expect.equal("put " + values[i], p.band(1, 3, 2, 4), due[i]);
            expect.equalReal("put " + values[i], p.bandReal(1, 3, 2, 4), due[i]);
        }
    }

    private static void theOthersStay() {
        for (State state : new State[] {State.SPLIT_INTS, State.SPLIT_REALS}) {
            for (int[] there : BANDS) {
                PlaneSplitter p = state.make();
                PlaneSplitter q = state.make();
                p.put(there[0], there[1], there[2], there[3], 4321f);
                for (int[] b : BANDS) {
                    for (int y = b[3]; y < b[3] + b[5]; y++) {
                        for (int x = b[2]; x < b[2] + b[4]; x++) {
                            boolean isThere = b == there && x == b[2] && y == b[3];
                            float due = isThere ? 4321f : q.bandReal(b[0], b[1], x, y);
                            expect.equalReal("after a put", p.bandReal(b[0], b[1], x, y), due);
                        }
                    }
                }
            }
        }
    }

    private static void vFromLeastToMost() {
        for (State state : new State[] {State.SPLIT_INTS, State.SPLIT_REALS, State.SPLIT_WITHOUT_LEVELS}) {
            int level = state == State.SPLIT_WITHOUT_LEVELS ? 0 : 2;
            int x = level == 0 ? 6 : 2;
            int y = level == 0 ? 8 : 2;
            for (float v : new float[] {16777216f, 16777215f, -16777216f, -16777215f}) {
                PlaneSplitter p = state.make();
                p.put(level, 0, x, y, v);
                expect.equalReal("put " + v + " in " + state, p.bandReal(level, 0, x, y), v);
            }
            // The floats next to the last that are allowed are 2 away from them.
            float[] wrong = {
                16777218f, -16777218f, Math.nextUp(16777216f), Math.nextDown(-16777216f), 1e10f, -1e10f,
                Float.MAX_VALUE, -Float.MAX_VALUE, 2147483648f, -2147483648f, 4294967296f,
            };
            for (float v : wrong) {
                expect.refusesArgument("put " + v, state, p -> p.put(level, 0, x, y, v));
            }
        }
    }

    private static void noNumberAtAll() {
        float[] wrong = {
            Float.NaN, Float.POSITIVE_INFINITY, Float.NEGATIVE_INFINITY, Float.intBitsToFloat(0x7f800001),
            Float.intBitsToFloat(0xffffffff),
        };
        for (State state : new State[] {State.SPLIT_INTS, State.SPLIT_REALS}) {
            for (float v : wrong) {
                expect.refusesArgument("put " + v, state, p -> p.put(2, 0, 1, 2, v));
                expect.refusesArgument("put " + v, state, p -> p.put(1, 3, 4, 4, v));
            }
        }
    }

    private static void refused(State state, int level, int band, int x, int y) {
        expect.refusesArgument("put(" + level + ", " + band + ", " + x + ", " + y + ", 5)", state,
                p -> p.put(level, band, x, y, 5f));
    }

    private static void noSuchPlace() {
        for (State state : new State[] {State.SPLIT_INTS, State.SPLIT_REALS}) {
            for (int[] b : BANDS) {
                int right = b[2] + b[4];
                int bottom = b[3] + b[5];
                refused(state, b[0], b[1], b[2] - 1, b[3]);
                refused(state, b[0], b[1], right, b[3]);
                refused(state, b[0], b[1], b[2], b[3] - 1);
                refused(state, b[0], b[1], b[2], bottom);
                refused(state, b[0], b[1], right, bottom);
                for (int far : new int[] {-1, -1000, 1 << 30, MIN, MAX}) {
                    refused(state, b[0], b[1], far, b[3]);
                    refused(state, b[0], b[1], b[2], far);
                }
            }
        }
    }

    private static void noPlaceInAnEmptyBand() {
        for (int level = 1; level <= 2; level++) {
            for (int band = level == 2 ? 0 : 1; band < 4; band++) {
                for (int y = -1; y <= 2; y++) {
                    for (int x = 0; x <= 3; x++) {
                        refused(State.SPLIT_WITHOUT_PLACES, level, band, x, y);
                    }
                }
            }
        }
    }

    private static void noSuchBand() {
        int[][] wrong = {
            {1, 4}, {2, 4}, {1, -1}, {2, -1}, {1, MAX}, {2, MIN}, {0, 0}, {0, 1}, {0, 2}, {0, 3}, {-1, 0}, {-1, 1},
            {3, 0}, {3, 1}, {3, 3}, {20, 1}, {21, 1}, {32, 1}, {33, 1}, {MAX, 0}, {MAX, 1}, {MIN, 0}, {MIN, 3}, {1, 0},
        };
        for (State state : new State[] {State.SPLIT_INTS, State.SPLIT_REALS}) {
            for (int[] a : wrong) {
                for (int[] place : new int[][] {{0, 0}, {1, 2}, {2, 3}, {3, 5}}) {
                    refused(state, a[0], a[1], place[0], place[1]);
                }
            }
        }
        for (int[] a : new int[][] {{0, 1}, {0, 2}, {0, 3}, {0, -1}, {0, 4}, {1, 0}, {1, 1}, {-1, 0}}) {
            refused(State.SPLIT_WITHOUT_LEVELS, a[0], a[1], 5, 7);
        }
    }

    private static void bandNoughtOfLevelNought() {
        State state = State.SPLIT_WITHOUT_LEVELS;
        PlaneSplitter p = state.make();
        p.put(0, 0, 5, 7, 1.5f);
        p.put(0, 0, 7, 8, -2.5f);
        p.join(0);
        expect.equalReal("the plane's first number", p.real(5, 7), 1.5f);
        expect.equalReal("the plane's last number", p.real(7, 8), -2.5f);
        refused(state, 0, 0, 4, 7);
        refused(state, 0, 0, 8, 7);
        refused(state, 0, 0, 5, 6);
        refused(state, 0, 0, 5, 9);
    }

    private static void farOnTheGrid() {
        for (int[] a : new int[][] {{499999, 499999}, {500006, 499999}, {499999, 500510}, {500006, 500510}}) {
            PlaneSplitter p = State.FULL_SPLIT.make();
            p.put(1, 3, a[0], a[1], 31f);
            expect.equal("put far on the grid", p.band(1, 3, a[0], a[1]), 31);
        }
        for (int[] a : new int[][] {{499998, 499999}, {500007, 499999}, {499999, 499998}, {499999, 500511}}) {
            refused(State.FULL_SPLIT, 1, 3, a[0], a[1]);
        }
    }

    private static void ofAWholePlane() {
        for (State state : new State[] {State.WHOLE_INTS, State.WHOLE_REALS}) {
            for (int[] b : BANDS) {
                expect.refusesState("put", state, p -> p.put(b[0], b[1], b[2], b[3], 5f));
            }
        }
        expect.refusesState("put", State.JOINED_TO_LESS, p -> p.put(2, 0, 1, 1, 5f));
        expect.refusesState("put", State.WHOLE_WITHOUT_LEVELS, p -> p.put(0, 0, 5, 7, 5f));
    }

    /** The document does not say which comes first; this is the order in which it tells them. */
    private static void argumentsBeforeState() {
        refused(State.WHOLE_INTS, 1, 0, 2, 3);
        refused(State.WHOLE_REALS, 1, 1, 0, 3);
        refused(State.WHOLE_WITHOUT_PLACES, 2, 0, 1, 1);
        expect.refusesArgument("put NaN", State.WHOLE_INTS, p -> p.put(1, 1, 1, 3, Float.NaN));
    }

    private static void whatWasPutIsJoined() {
        PlaneSplitter p = new PlaneSplitter();
        p.begin(0, 0, 2, 1, 1, false);
        p.split();
        p.put(1, 0, 0, 0, 10.9f);
        p.put(1, 1, 0, 0, -3.9f);
        p.join(1);
        // Even: 10 less a quarter of -3 - 3 + 2, odd: -3 and that.
        expect.equal("the even number", p.at(0, 0), 11);
        expect.equal("the odd number", p.at(1, 0), 8);
    }
}
