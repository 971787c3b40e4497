import java.util.Arrays;

/** Promises 10 and 11: band and bandReal. */
final class BandTest {
    private static final int MIN = Integer.MIN_VALUE;
    private static final int MAX = Integer.MAX_VALUE;

    private static final Expect expect = new Expect();

    /** Level, band, LEFT, TOP, WIDE and HIGH of the bands of a plane at 3, 5, seven wide and six high. */
    private static final int[][] BANDS = {
        {1, 1, 1, 3, 4, 3}, {1, 2, 2, 2, 3, 3}, {1, 3, 1, 2, 4, 3}, {2, 0, 1, 2, 2, 1}, {2, 1, 1, 2, 1, 1},
        {2, 2, 1, 1, 2, 2}, {2, 3, 1, 1, 1, 2},
    };

    public static void main(String[] args) {
        eachPlaceHasItsNumber();
        aRealWithoutItsFraction();
        anIntAsTheFloatNextToIt();
        firstAndLastPlaces();
        noSuchPlace();
        noPlaceInAnEmptyBand();
        noSuchBand();
        bandNoughtOfLevelNought();
        farOnTheGrid();
        ofAWholePlane();
        argumentsBeforeState();
        expect.end();
    }

    private static void eachPlaceHasItsNumber() {
        for (State state : new State[] {State.SPLIT_INTS, State.SPLIT_REALS}) {
            PlaneSplitter p = state.make();
            for (int round = 0; round < 2; round++) {
                int v = 100;
                for (int[] b : BANDS) {
                    for (int y = b[3]; y < b[3] + b[5]; y++) {
                        for (int x = b[2]; x < b[2] + b[4]; x++) {
                            if (round == 0) {
                                p.put(b[0], b[1], x, y, v);
                            } else {
                                expect.equal("band " + Arrays.toString(b), p.band(b[0], b[1], x, y), v);
                                expect.equalReal("bandReal " + Arrays.toString(b), p.bandReal(b[0], b[1], x, y), v);
                            }
                            v++;
                        }
                    }
                }
                expect.equal("numbers in all", v, 142);
            }
        }
    }

    private static void aRealWithoutItsFraction() {
        float[] values = {2.99f, -2.99f, 0.5f, -0.5f, 0.99999994f, 16777216f, -16777216f, 8388607.5f, -8388607.5f, -0.0f};
        int[] due = {2, -2, 0, 0, 0, 16777216, -16777216, 8388607, -8388607, 0};
        for (int i = 0; i < values.length; i++) {
            PlaneSplitter p = State.SPLIT_REALS.make();
            p.put(1, 3, 4, 4, values[i]);
            expect.equal("band of " + values[i], p.band(1, 3, 4, 4), due[i]);
            expect.equalReal("bandReal of " + values[i], p.bandReal(1, 3, 4, 4), values[i]);
        }
    }

    /** The high one of two numbers is what the odd one is more than the even one. */
    private static void anIntAsTheFloatNextToIt() {
        int[][] evenOddHigh = {
            {-1, 16777216, 16777217}, {-3, 16777216, 16777219}, {16777216, -16777216, -33554432},
            {16777215, -16777216, -33554431}, {-16777215, 16777215, 33554430}, {1, -16777216, -16777217},
        };
        float[] due = {16777216f, 16777220f, -33554432f, -33554432f, 33554430f, -16777216f};
        for (int i = 0; i < due.length; i++) {
            PlaneSplitter p = new PlaneSplitter();
            p.begin(0, 0, 2, 1, 1, false);
            p.set(0, 0, evenOddHigh[i][0]);
            p.set(1, 0, evenOddHigh[i][1]);
            p.split();
            expect.equal("band of a large int", p.band(1, 1, 0, 0), evenOddHigh[i][2]);
            expect.equalReal("bandReal of a large int", p.bandReal(1, 1, 0, 0), due[i]);
        }
    }

    private static void firstAndLastPlaces() {
        for (State state : new State[] {State.SPLIT_INTS, State.SPLIT_REALS}) {
            for (int[] b : BANDS) {
                int right = b[2] + b[4] - 1;
                int bottom = b[3] + b[5] - 1;
                for (int[] a : new int[][] {{b[2], b[3]}, {right, b[3]}, {b[2], bottom}, {right, bottom}}) {
                    expect.allows("band", state, p -> p.band(b[0], b[1], a[0], a[1]));
                    expect.allows("bandReal", state, p -> p.bandReal(b[0], b[1], a[0], a[1]));
                }
            }
        }
    }

    private static void refused(State state, int level, int band, int x, int y) {
        String what = level + ", " + band + ", " + x + ", " + y + ")";
        expect.refusesArgument("band(" + what, state, p -> p.band(level, band, x, y));
        expect.refusesArgument("bandReal(" + what, state, p -> p.bandReal(level, band, x, y));
    }

    private static void noSuchPlace() {
        for (State state : new State[] {State.SPLIT_INTS, State.SPLIT_REALS}) {
            for (int[] b : BANDS) {
                int right = b[2] + b[4];
                int bottom = b[3] + b[5];
                refused(state, b[0], b[1], b[2] - 1, b[3]);
                refused(state, b[0], b[1], right, b[3]);
                refused(state, b[0], b[1], b[2], b[3] - 1);
                refused(state, b[0], b[1], b[2], bottom);
                refused(state, b[0], b[1], right, bottom);
                for (int far : new int[] {-1, -1000, 1 << 30, MIN, MAX}) {
                    refused(state, b[0], b[1], far, b[3]);
                    refused(state, b[0], b[1], b[2], far);
                }
            }
        }
    }

    private static void noPlaceInAnEmptyBand() {
        for (int level = 1; level <= 2; level++) {
            for (int band = level == 2 ? 0 : 1; band < 4; band++) {
                for (int y = -1; y <= 2; y++) {
                    for (int x = 0; x <= 3; x++) {
                        refused(State.SPLIT_WITHOUT_PLACES, level, band, x, y);
                    }
                }
            }
        }
        PlaneSplitter p = new PlaneSplitter();
        p.begin(5, 4, 1, 1, 1, false);
        p.set(5, 4, 9);
        p.split();
        expect.equal("the one number there is", p.band(1, 1, 2, 2), 18);
        for (int band : new int[] {0, 2, 3}) {
            for (int y = 1; y <= 3; y++) {
                for (int x = 1; x <= 4; x++) {
                    int atX = x;
                    int atY = y;
                    expect.refusesArgument("empty band " + band, p, q -> q.band(1, band, atX, atY));
                    expect.refusesArgument("empty band " + band, p, q -> q.bandReal(1, band, atX, atY));
                }
            }
        }
    }

    private static void noSuchBand() {
        int[][] wrong = {
            {1, 4}, {2, 4}, {1, -1}, {2, -1}, {1, MAX}, {2, MIN}, {0, 0}, {0, 1}, {0, 2}, {0, 3}, {-1, 0}, {-1, 1},
            {3, 0}, {3, 1}, {3, 3}, {20, 1}, {21, 1}, {32, 1}, {33, 1}, {MAX, 0}, {MAX, 1}, {MIN, 0}, {MIN, 3}, {1, 0},
        };
        for (State state : new State[] {State.SPLIT_INTS, State.SPLIT_REALS}) {
            for (int[] a : wrong) {
                for (int[] place : new int[][] {{0, 0}, {1, 2}, {2, 3}, {3, 5}}) {
                    refused(state, a[0], a[1], place[0], place[1]);
                }
            }
        }
        for (int[] a : new int[][] {{0, 1}, {0, 2}, {0, 3}, {0, -1}, {0, 4}, {1, 0}, {1, 1}, {-1, 0}}) {
            refused(State.SPLIT_WITHOUT_LEVELS, a[0], a[1], 5, 7);
        }
    }

    private static void bandNoughtOfLevelNought() {
        State state = State.SPLIT_WITHOUT_LEVELS;
        PlaneSplitter p = state.make();
        for (int j = 0; j < 2; j++) {
            for (int i = 0; i < 3; i++) {
                int due = 12345 * i + 6789 * j + 1011 * i * j - 32768;
                expect.equal("the plane itself", p.band(0, 0, 5 + i, 7 + j), due);
                expect.equalReal("the plane itself", p.bandReal(0, 0, 5 + i, 7 + j), due);
            }
        }
        refused(state, 0, 0, 4, 7);
        refused(state, 0, 0, 8, 7);
        refused(state, 0, 0, 5, 6);
        refused(state, 0, 0, 5, 9);
    }

    private static void farOnTheGrid() {
        State state = State.FULL_SPLIT;
        for (int[] a : new int[][] {{499999, 499999}, {500006, 499999}, {499999, 500510}, {500006, 500510}}) {
            expect.allows("band(1, 3, " + a[0] + ", " + a[1] + ")", state, p -> p.band(1, 3, a[0], a[1]));
            expect.allows("bandReal(1, 3, " + a[0] + ", " + a[1] + ")", state, p -> p.bandReal(1, 3, a[0], a[1]));
        }
        for (int[] a : new int[][] {{499998, 499999}, {500007, 499999}, {499999, 499998}, {499999, 500511}}) {
            refused(state, 1, 3, a[0], a[1]);
        }
    }

    private static void ofAWholePlane() {
        for (State state : new State[] {State.WHOLE_INTS, State.WHOLE_REALS}) {
            for (int[] b : BANDS) {
                expect.refusesState("band", state, p -> p.band(b[0], b[1], b[2], b[3]));
                expect.refusesState("bandReal", state, p -> p.bandReal(b[0], b[1], b[2], b[3]));
            }
        }
        expect.refusesState("band", State.JOINED_TO_LESS, p -> p.band(2, 0, 1, 1));
        expect.refusesState("bandReal", State.JOINED_TO_LESS, p -> p.bandReal(2, 0, 1, 1));
        expect.refusesState("band", State.WHOLE_WITHOUT_LEVELS, p -> p.band(0, 0, 5, 7));
        expect.refusesState("bandReal", State.WHOLE_WITHOUT_LEVELS, p -> p.bandReal(0, 0, 5, 7));
    }

    /** The document does not say which comes first; this is the order in which it tells them. */
    private static void argumentsBeforeState() {
        refused(State.WHOLE_INTS, 1, 0, 2, 3);
        refused(State.WHOLE_REALS, 1, 1, 0, 3);
        refused(State.WHOLE_WITHOUT_PLACES, 2, 0, 1, 1);
    }
}
